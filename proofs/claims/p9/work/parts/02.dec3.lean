theorem qd3_0 : (decode cX7_line 0 = .ok (.iload_n 1, 1)) ∧ (decode cX7_line 1 = .ok (.invokestatic 112, 3)) ∧ (decode cX7_line 4 = .ok (.ifCond .eq 44, 3)) ∧ (decode cX7_line 7 = .ok (.iload_n 2, 1)) ∧ (decode cX7_line 8 = .ok (.invokestatic 112, 3)) ∧ (decode cX7_line 11 = .ok (.ifCond .eq 37, 3)) ∧ (decode cX7_line 14 = .ok (.iload_n 1, 1)) ∧ (decode cX7_line 15 = .ok (.iload_n 2, 1)) ∧ (decode cX7_line 16 = .ok (.if_icmp .eq 32, 3)) ∧ (decode cX7_line 19 = .ok (.iload_n 3, 1)) ∧ (decode cX7_line 20 = .ok (.i2l, 1)) ∧ (decode cX7_line 21 = .ok (.lconst 1, 1)) := by decide +kernel
theorem dX7_line_0 : decode cX7_line 0 = .ok (.iload_n 1, 1) := qd3_0.1
theorem dX7_line_1 : decode cX7_line 1 = .ok (.invokestatic 112, 3) := qd3_0.2.1
theorem dX7_line_4 : decode cX7_line 4 = .ok (.ifCond .eq 44, 3) := qd3_0.2.2.1
theorem dX7_line_7 : decode cX7_line 7 = .ok (.iload_n 2, 1) := qd3_0.2.2.2.1
theorem dX7_line_8 : decode cX7_line 8 = .ok (.invokestatic 112, 3) := qd3_0.2.2.2.2.1
theorem dX7_line_11 : decode cX7_line 11 = .ok (.ifCond .eq 37, 3) := qd3_0.2.2.2.2.2.1
theorem dX7_line_14 : decode cX7_line 14 = .ok (.iload_n 1, 1) := qd3_0.2.2.2.2.2.2.1
theorem dX7_line_15 : decode cX7_line 15 = .ok (.iload_n 2, 1) := qd3_0.2.2.2.2.2.2.2.1
theorem dX7_line_16 : decode cX7_line 16 = .ok (.if_icmp .eq 32, 3) := qd3_0.2.2.2.2.2.2.2.2.1
theorem dX7_line_19 : decode cX7_line 19 = .ok (.iload_n 3, 1) := qd3_0.2.2.2.2.2.2.2.2.2.1
theorem dX7_line_20 : decode cX7_line 20 = .ok (.i2l, 1) := qd3_0.2.2.2.2.2.2.2.2.2.2.1
theorem dX7_line_21 : decode cX7_line 21 = .ok (.lconst 1, 1) := qd3_0.2.2.2.2.2.2.2.2.2.2.2
theorem qd3_1 : (decode cX7_line 22 = .ok (.ldc2_w 88, 3)) ∧ (decode cX7_line 25 = .ok (.invokestatic 78, 3)) ∧ (decode cX7_line 28 = .ok (.ifCond .eq 20, 3)) ∧ (decode cX7_line 31 = .ok (.iload 4, 2)) ∧ (decode cX7_line 33 = .ok (.i2l, 1)) ∧ (decode cX7_line 34 = .ok (.lconst 1, 1)) ∧ (decode cX7_line 35 = .ok (.ldc2_w 115, 3)) ∧ (decode cX7_line 38 = .ok (.invokestatic 78, 3)) ∧ (decode cX7_line 41 = .ok (.ifCond .eq 7, 3)) ∧ (decode cX7_line 44 = .ok (.iconst 1, 1)) ∧ (decode cX7_line 45 = .ok (.goto 4, 3)) ∧ (decode cX7_line 48 = .ok (.iconst 0, 1)) := by decide +kernel
theorem dX7_line_22 : decode cX7_line 22 = .ok (.ldc2_w 88, 3) := qd3_1.1
theorem dX7_line_25 : decode cX7_line 25 = .ok (.invokestatic 78, 3) := qd3_1.2.1
theorem dX7_line_28 : decode cX7_line 28 = .ok (.ifCond .eq 20, 3) := qd3_1.2.2.1
theorem dX7_line_31 : decode cX7_line 31 = .ok (.iload 4, 2) := qd3_1.2.2.2.1
theorem dX7_line_33 : decode cX7_line 33 = .ok (.i2l, 1) := qd3_1.2.2.2.2.1
theorem dX7_line_34 : decode cX7_line 34 = .ok (.lconst 1, 1) := qd3_1.2.2.2.2.2.1
theorem dX7_line_35 : decode cX7_line 35 = .ok (.ldc2_w 115, 3) := qd3_1.2.2.2.2.2.2.1
theorem dX7_line_38 : decode cX7_line 38 = .ok (.invokestatic 78, 3) := qd3_1.2.2.2.2.2.2.2.1
theorem dX7_line_41 : decode cX7_line 41 = .ok (.ifCond .eq 7, 3) := qd3_1.2.2.2.2.2.2.2.2.1
theorem dX7_line_44 : decode cX7_line 44 = .ok (.iconst 1, 1) := qd3_1.2.2.2.2.2.2.2.2.2.1
theorem dX7_line_45 : decode cX7_line 45 = .ok (.goto 4, 3) := qd3_1.2.2.2.2.2.2.2.2.2.2.1
theorem dX7_line_48 : decode cX7_line 48 = .ok (.iconst 0, 1) := qd3_1.2.2.2.2.2.2.2.2.2.2.2
theorem qd3_2 : (decode cX7_line 49 = .ok (.istore 7, 2)) ∧ (decode cX7_line 51 = .ok (.iload 7, 2)) ∧ (decode cX7_line 53 = .ok (.ifCond .eq 29, 3)) ∧ (decode cX7_line 56 = .ok (.iload 5, 2)) ∧ (decode cX7_line 58 = .ok (.i2l, 1)) ∧ (decode cX7_line 59 = .ok (.lconst 1, 1)) ∧ (decode cX7_line 60 = .ok (.ldc2_w 117, 3)) ∧ (decode cX7_line 63 = .ok (.invokestatic 78, 3)) ∧ (decode cX7_line 66 = .ok (.ifCond .eq 16, 3)) ∧ (decode cX7_line 69 = .ok (.iload 6, 2)) ∧ (decode cX7_line 71 = .ok (.i2l, 1)) ∧ (decode cX7_line 72 = .ok (.lconst 0, 1)) := by decide +kernel
theorem dX7_line_49 : decode cX7_line 49 = .ok (.istore 7, 2) := qd3_2.1
theorem dX7_line_51 : decode cX7_line 51 = .ok (.iload 7, 2) := qd3_2.2.1
theorem dX7_line_53 : decode cX7_line 53 = .ok (.ifCond .eq 29, 3) := qd3_2.2.2.1
theorem dX7_line_56 : decode cX7_line 56 = .ok (.iload 5, 2) := qd3_2.2.2.2.1
theorem dX7_line_58 : decode cX7_line 58 = .ok (.i2l, 1) := qd3_2.2.2.2.2.1
theorem dX7_line_59 : decode cX7_line 59 = .ok (.lconst 1, 1) := qd3_2.2.2.2.2.2.1
theorem dX7_line_60 : decode cX7_line 60 = .ok (.ldc2_w 117, 3) := qd3_2.2.2.2.2.2.2.1
theorem dX7_line_63 : decode cX7_line 63 = .ok (.invokestatic 78, 3) := qd3_2.2.2.2.2.2.2.2.1
theorem dX7_line_66 : decode cX7_line 66 = .ok (.ifCond .eq 16, 3) := qd3_2.2.2.2.2.2.2.2.2.1
theorem dX7_line_69 : decode cX7_line 69 = .ok (.iload 6, 2) := qd3_2.2.2.2.2.2.2.2.2.2.1
theorem dX7_line_71 : decode cX7_line 71 = .ok (.i2l, 1) := qd3_2.2.2.2.2.2.2.2.2.2.2.1
theorem dX7_line_72 : decode cX7_line 72 = .ok (.lconst 0, 1) := qd3_2.2.2.2.2.2.2.2.2.2.2.2
theorem qd3_3 : (decode cX7_line 73 = .ok (.ldc2_w 106, 3)) ∧ (decode cX7_line 76 = .ok (.invokestatic 78, 3)) ∧ (decode cX7_line 79 = .ok (.ifCond .ne 10, 3)) ∧ (decode cX7_line 82 = .ok (.aload_n 0, 1)) ∧ (decode cX7_line 83 = .ok (.bipush (-2), 2)) ∧ (decode cX7_line 85 = .ok (.invokevirtual 94, 3)) ∧ (decode cX7_line 88 = .ok (.ireturn, 1)) ∧ (decode cX7_line 89 = .ok (.aload_n 0, 1)) ∧ (decode cX7_line 90 = .ok (.getfield 82, 3)) ∧ (decode cX7_line 93 = .ok (.bipush 20, 2)) ∧ (decode cX7_line 95 = .ok (.if_icmp .ne 10, 3)) ∧ (decode cX7_line 98 = .ok (.aload_n 0, 1)) := by decide +kernel
theorem dX7_line_73 : decode cX7_line 73 = .ok (.ldc2_w 106, 3) := qd3_3.1
theorem dX7_line_76 : decode cX7_line 76 = .ok (.invokestatic 78, 3) := qd3_3.2.1
theorem dX7_line_79 : decode cX7_line 79 = .ok (.ifCond .ne 10, 3) := qd3_3.2.2.1
theorem dX7_line_82 : decode cX7_line 82 = .ok (.aload_n 0, 1) := qd3_3.2.2.2.1
theorem dX7_line_83 : decode cX7_line 83 = .ok (.bipush (-2), 2) := qd3_3.2.2.2.2.1
theorem dX7_line_85 : decode cX7_line 85 = .ok (.invokevirtual 94, 3) := qd3_3.2.2.2.2.2.1
theorem dX7_line_88 : decode cX7_line 88 = .ok (.ireturn, 1) := qd3_3.2.2.2.2.2.2.1
theorem dX7_line_89 : decode cX7_line 89 = .ok (.aload_n 0, 1) := qd3_3.2.2.2.2.2.2.2.1
theorem dX7_line_90 : decode cX7_line 90 = .ok (.getfield 82, 3) := qd3_3.2.2.2.2.2.2.2.2.1
theorem dX7_line_93 : decode cX7_line 93 = .ok (.bipush 20, 2) := qd3_3.2.2.2.2.2.2.2.2.2.1
theorem dX7_line_95 : decode cX7_line 95 = .ok (.if_icmp .ne 10, 3) := qd3_3.2.2.2.2.2.2.2.2.2.2.1
theorem dX7_line_98 : decode cX7_line 98 = .ok (.aload_n 0, 1) := qd3_3.2.2.2.2.2.2.2.2.2.2.2
theorem qd3_4 : (decode cX7_line 99 = .ok (.bipush (-6), 2)) ∧ (decode cX7_line 101 = .ok (.invokevirtual 94, 3)) ∧ (decode cX7_line 104 = .ok (.ireturn, 1)) ∧ (decode cX7_line 105 = .ok (.aload_n 0, 1)) ∧ (decode cX7_line 106 = .ok (.iload_n 1, 1)) ∧ (decode cX7_line 107 = .ok (.iload_n 2, 1)) ∧ (decode cX7_line 108 = .ok (.invokevirtual 119, 3)) ∧ (decode cX7_line 111 = .ok (.aload_n 0, 1)) ∧ (decode cX7_line 112 = .ok (.getfield 39, 3)) ∧ (decode cX7_line 115 = .ok (.aload_n 0, 1)) ∧ (decode cX7_line 116 = .ok (.getfield 82, 3)) ∧ (decode cX7_line 119 = .ok (.aaload, 1)) := by decide +kernel
theorem dX7_line_99 : decode cX7_line 99 = .ok (.bipush (-6), 2) := qd3_4.1
theorem dX7_line_101 : decode cX7_line 101 = .ok (.invokevirtual 94, 3) := qd3_4.2.1
theorem dX7_line_104 : decode cX7_line 104 = .ok (.ireturn, 1) := qd3_4.2.2.1
theorem dX7_line_105 : decode cX7_line 105 = .ok (.aload_n 0, 1) := qd3_4.2.2.2.1
theorem dX7_line_106 : decode cX7_line 106 = .ok (.iload_n 1, 1) := qd3_4.2.2.2.2.1
theorem dX7_line_107 : decode cX7_line 107 = .ok (.iload_n 2, 1) := qd3_4.2.2.2.2.2.1
theorem dX7_line_108 : decode cX7_line 108 = .ok (.invokevirtual 119, 3) := qd3_4.2.2.2.2.2.2.1
theorem dX7_line_111 : decode cX7_line 111 = .ok (.aload_n 0, 1) := qd3_4.2.2.2.2.2.2.2.1
theorem dX7_line_112 : decode cX7_line 112 = .ok (.getfield 39, 3) := qd3_4.2.2.2.2.2.2.2.2.1
theorem dX7_line_115 : decode cX7_line 115 = .ok (.aload_n 0, 1) := qd3_4.2.2.2.2.2.2.2.2.2.1
theorem dX7_line_116 : decode cX7_line 116 = .ok (.getfield 82, 3) := qd3_4.2.2.2.2.2.2.2.2.2.2.1
theorem dX7_line_119 : decode cX7_line 119 = .ok (.aaload, 1) := qd3_4.2.2.2.2.2.2.2.2.2.2.2
theorem qd3_5 : (decode cX7_line 120 = .ok (.iconst 2, 1)) ∧ (decode cX7_line 121 = .ok (.iload_n 3, 1)) ∧ (decode cX7_line 122 = .ok (.iastore, 1)) ∧ (decode cX7_line 123 = .ok (.aload_n 0, 1)) ∧ (decode cX7_line 124 = .ok (.getfield 39, 3)) ∧ (decode cX7_line 127 = .ok (.aload_n 0, 1)) ∧ (decode cX7_line 128 = .ok (.getfield 82, 3)) ∧ (decode cX7_line 131 = .ok (.aaload, 1)) ∧ (decode cX7_line 132 = .ok (.iconst 3, 1)) ∧ (decode cX7_line 133 = .ok (.iload 4, 2)) ∧ (decode cX7_line 135 = .ok (.iastore, 1)) ∧ (decode cX7_line 136 = .ok (.aload_n 0, 1)) := by decide +kernel
theorem dX7_line_120 : decode cX7_line 120 = .ok (.iconst 2, 1) := qd3_5.1
theorem dX7_line_121 : decode cX7_line 121 = .ok (.iload_n 3, 1) := qd3_5.2.1
theorem dX7_line_122 : decode cX7_line 122 = .ok (.iastore, 1) := qd3_5.2.2.1
theorem dX7_line_123 : decode cX7_line 123 = .ok (.aload_n 0, 1) := qd3_5.2.2.2.1
theorem dX7_line_124 : decode cX7_line 124 = .ok (.getfield 39, 3) := qd3_5.2.2.2.2.1
theorem dX7_line_127 : decode cX7_line 127 = .ok (.aload_n 0, 1) := qd3_5.2.2.2.2.2.1
theorem dX7_line_128 : decode cX7_line 128 = .ok (.getfield 82, 3) := qd3_5.2.2.2.2.2.2.1
theorem dX7_line_131 : decode cX7_line 131 = .ok (.aaload, 1) := qd3_5.2.2.2.2.2.2.2.1
theorem dX7_line_132 : decode cX7_line 132 = .ok (.iconst 3, 1) := qd3_5.2.2.2.2.2.2.2.2.1
theorem dX7_line_133 : decode cX7_line 133 = .ok (.iload 4, 2) := qd3_5.2.2.2.2.2.2.2.2.2.1
theorem dX7_line_135 : decode cX7_line 135 = .ok (.iastore, 1) := qd3_5.2.2.2.2.2.2.2.2.2.2.1
theorem dX7_line_136 : decode cX7_line 136 = .ok (.aload_n 0, 1) := qd3_5.2.2.2.2.2.2.2.2.2.2.2
theorem qd3_6 : (decode cX7_line 137 = .ok (.getfield 39, 3)) ∧ (decode cX7_line 140 = .ok (.aload_n 0, 1)) ∧ (decode cX7_line 141 = .ok (.getfield 82, 3)) ∧ (decode cX7_line 144 = .ok (.aaload, 1)) ∧ (decode cX7_line 145 = .ok (.iconst 4, 1)) ∧ (decode cX7_line 146 = .ok (.iload 5, 2)) ∧ (decode cX7_line 148 = .ok (.iastore, 1)) ∧ (decode cX7_line 149 = .ok (.aload_n 0, 1)) ∧ (decode cX7_line 150 = .ok (.getfield 39, 3)) ∧ (decode cX7_line 153 = .ok (.aload_n 0, 1)) ∧ (decode cX7_line 154 = .ok (.getfield 82, 3)) ∧ (decode cX7_line 157 = .ok (.aaload, 1)) := by decide +kernel
theorem dX7_line_137 : decode cX7_line 137 = .ok (.getfield 39, 3) := qd3_6.1
theorem dX7_line_140 : decode cX7_line 140 = .ok (.aload_n 0, 1) := qd3_6.2.1
theorem dX7_line_141 : decode cX7_line 141 = .ok (.getfield 82, 3) := qd3_6.2.2.1
theorem dX7_line_144 : decode cX7_line 144 = .ok (.aaload, 1) := qd3_6.2.2.2.1
theorem dX7_line_145 : decode cX7_line 145 = .ok (.iconst 4, 1) := qd3_6.2.2.2.2.1
theorem dX7_line_146 : decode cX7_line 146 = .ok (.iload 5, 2) := qd3_6.2.2.2.2.2.1
theorem dX7_line_148 : decode cX7_line 148 = .ok (.iastore, 1) := qd3_6.2.2.2.2.2.2.1
theorem dX7_line_149 : decode cX7_line 149 = .ok (.aload_n 0, 1) := qd3_6.2.2.2.2.2.2.2.1
theorem dX7_line_150 : decode cX7_line 150 = .ok (.getfield 39, 3) := qd3_6.2.2.2.2.2.2.2.2.1
theorem dX7_line_153 : decode cX7_line 153 = .ok (.aload_n 0, 1) := qd3_6.2.2.2.2.2.2.2.2.2.1
theorem dX7_line_154 : decode cX7_line 154 = .ok (.getfield 82, 3) := qd3_6.2.2.2.2.2.2.2.2.2.2.1
theorem dX7_line_157 : decode cX7_line 157 = .ok (.aaload, 1) := qd3_6.2.2.2.2.2.2.2.2.2.2.2
theorem qd3_7 : (decode cX7_line 158 = .ok (.iconst 5, 1)) ∧ (decode cX7_line 159 = .ok (.iload 6, 2)) ∧ (decode cX7_line 161 = .ok (.iastore, 1)) ∧ (decode cX7_line 162 = .ok (.aload_n 0, 1)) ∧ (decode cX7_line 163 = .ok (.dup, 1)) ∧ (decode cX7_line 164 = .ok (.getfield 82, 3)) ∧ (decode cX7_line 167 = .ok (.dup_x1, 1)) ∧ (decode cX7_line 168 = .ok (.iconst 1, 1)) ∧ (decode cX7_line 169 = .ok (.iadd, 1)) ∧ (decode cX7_line 170 = .ok (.putfield 82, 3)) ∧ (decode cX7_line 173 = .ok (.ireturn, 1)) := by decide +kernel
theorem dX7_line_158 : decode cX7_line 158 = .ok (.iconst 5, 1) := qd3_7.1
theorem dX7_line_159 : decode cX7_line 159 = .ok (.iload 6, 2) := qd3_7.2.1
theorem dX7_line_161 : decode cX7_line 161 = .ok (.iastore, 1) := qd3_7.2.2.1
theorem dX7_line_162 : decode cX7_line 162 = .ok (.aload_n 0, 1) := qd3_7.2.2.2.1
theorem dX7_line_163 : decode cX7_line 163 = .ok (.dup, 1) := qd3_7.2.2.2.2.1
theorem dX7_line_164 : decode cX7_line 164 = .ok (.getfield 82, 3) := qd3_7.2.2.2.2.2.1
theorem dX7_line_167 : decode cX7_line 167 = .ok (.dup_x1, 1) := qd3_7.2.2.2.2.2.2.1
theorem dX7_line_168 : decode cX7_line 168 = .ok (.iconst 1, 1) := qd3_7.2.2.2.2.2.2.2.1
theorem dX7_line_169 : decode cX7_line 169 = .ok (.iadd, 1) := qd3_7.2.2.2.2.2.2.2.2.1
theorem dX7_line_170 : decode cX7_line 170 = .ok (.putfield 82, 3) := qd3_7.2.2.2.2.2.2.2.2.2.1
theorem dX7_line_173 : decode cX7_line 173 = .ok (.ireturn, 1) := qd3_7.2.2.2.2.2.2.2.2.2.2
theorem qd3_8 : (decode cX7_goods 0 = .ok (.iload_n 1, 1)) ∧ (decode cX7_goods 1 = .ok (.invokestatic 112, 3)) ∧ (decode cX7_goods 4 = .ok (.ifCond .eq 27, 3)) ∧ (decode cX7_goods 7 = .ok (.iload_n 2, 1)) ∧ (decode cX7_goods 8 = .ok (.invokestatic 112, 3)) ∧ (decode cX7_goods 11 = .ok (.ifCond .eq 20, 3)) ∧ (decode cX7_goods 14 = .ok (.iload_n 1, 1)) ∧ (decode cX7_goods 15 = .ok (.iload_n 2, 1)) ∧ (decode cX7_goods 16 = .ok (.if_icmp .eq 15, 3)) ∧ (decode cX7_goods 19 = .ok (.iload_n 3, 1)) ∧ (decode cX7_goods 20 = .ok (.i2l, 1)) ∧ (decode cX7_goods 21 = .ok (.lconst 1, 1)) := by decide +kernel
theorem dX7_goods_0 : decode cX7_goods 0 = .ok (.iload_n 1, 1) := qd3_8.1
theorem dX7_goods_1 : decode cX7_goods 1 = .ok (.invokestatic 112, 3) := qd3_8.2.1
theorem dX7_goods_4 : decode cX7_goods 4 = .ok (.ifCond .eq 27, 3) := qd3_8.2.2.1
theorem dX7_goods_7 : decode cX7_goods 7 = .ok (.iload_n 2, 1) := qd3_8.2.2.2.1
theorem dX7_goods_8 : decode cX7_goods 8 = .ok (.invokestatic 112, 3) := qd3_8.2.2.2.2.1
theorem dX7_goods_11 : decode cX7_goods 11 = .ok (.ifCond .eq 20, 3) := qd3_8.2.2.2.2.2.1
theorem dX7_goods_14 : decode cX7_goods 14 = .ok (.iload_n 1, 1) := qd3_8.2.2.2.2.2.2.1
theorem dX7_goods_15 : decode cX7_goods 15 = .ok (.iload_n 2, 1) := qd3_8.2.2.2.2.2.2.2.1
theorem dX7_goods_16 : decode cX7_goods 16 = .ok (.if_icmp .eq 15, 3) := qd3_8.2.2.2.2.2.2.2.2.1
theorem dX7_goods_19 : decode cX7_goods 19 = .ok (.iload_n 3, 1) := qd3_8.2.2.2.2.2.2.2.2.2.1
theorem dX7_goods_20 : decode cX7_goods 20 = .ok (.i2l, 1) := qd3_8.2.2.2.2.2.2.2.2.2.2.1
theorem dX7_goods_21 : decode cX7_goods 21 = .ok (.lconst 1, 1) := qd3_8.2.2.2.2.2.2.2.2.2.2.2
theorem qd3_9 : (decode cX7_goods 22 = .ok (.ldc2_w 123, 3)) ∧ (decode cX7_goods 25 = .ok (.invokestatic 78, 3)) ∧ (decode cX7_goods 28 = .ok (.ifCond .ne 10, 3)) ∧ (decode cX7_goods 31 = .ok (.aload_n 0, 1)) ∧ (decode cX7_goods 32 = .ok (.bipush (-2), 2)) ∧ (decode cX7_goods 34 = .ok (.invokevirtual 94, 3)) ∧ (decode cX7_goods 37 = .ok (.ireturn, 1)) ∧ (decode cX7_goods 38 = .ok (.aload_n 0, 1)) ∧ (decode cX7_goods 39 = .ok (.getfield 125, 3)) ∧ (decode cX7_goods 42 = .ok (.bipush 8, 2)) ∧ (decode cX7_goods 44 = .ok (.if_icmp .ne 10, 3)) ∧ (decode cX7_goods 47 = .ok (.aload_n 0, 1)) := by decide +kernel
theorem dX7_goods_22 : decode cX7_goods 22 = .ok (.ldc2_w 123, 3) := qd3_9.1
theorem dX7_goods_25 : decode cX7_goods 25 = .ok (.invokestatic 78, 3) := qd3_9.2.1
theorem dX7_goods_28 : decode cX7_goods 28 = .ok (.ifCond .ne 10, 3) := qd3_9.2.2.1
theorem dX7_goods_31 : decode cX7_goods 31 = .ok (.aload_n 0, 1) := qd3_9.2.2.2.1
theorem dX7_goods_32 : decode cX7_goods 32 = .ok (.bipush (-2), 2) := qd3_9.2.2.2.2.1
theorem dX7_goods_34 : decode cX7_goods 34 = .ok (.invokevirtual 94, 3) := qd3_9.2.2.2.2.2.1
theorem dX7_goods_37 : decode cX7_goods 37 = .ok (.ireturn, 1) := qd3_9.2.2.2.2.2.2.1
theorem dX7_goods_38 : decode cX7_goods 38 = .ok (.aload_n 0, 1) := qd3_9.2.2.2.2.2.2.2.1
theorem dX7_goods_39 : decode cX7_goods 39 = .ok (.getfield 125, 3) := qd3_9.2.2.2.2.2.2.2.2.1
theorem dX7_goods_42 : decode cX7_goods 42 = .ok (.bipush 8, 2) := qd3_9.2.2.2.2.2.2.2.2.2.1
theorem dX7_goods_44 : decode cX7_goods 44 = .ok (.if_icmp .ne 10, 3) := qd3_9.2.2.2.2.2.2.2.2.2.2.1
theorem dX7_goods_47 : decode cX7_goods 47 = .ok (.aload_n 0, 1) := qd3_9.2.2.2.2.2.2.2.2.2.2.2
theorem qd3_10 : (decode cX7_goods 48 = .ok (.bipush (-6), 2)) ∧ (decode cX7_goods 50 = .ok (.invokevirtual 94, 3)) ∧ (decode cX7_goods 53 = .ok (.ireturn, 1)) ∧ (decode cX7_goods 54 = .ok (.aload_n 0, 1)) ∧ (decode cX7_goods 55 = .ok (.getfield 48, 3)) ∧ (decode cX7_goods 58 = .ok (.aload_n 0, 1)) ∧ (decode cX7_goods 59 = .ok (.getfield 125, 3)) ∧ (decode cX7_goods 62 = .ok (.aaload, 1)) ∧ (decode cX7_goods 63 = .ok (.iconst 0, 1)) ∧ (decode cX7_goods 64 = .ok (.iload_n 1, 1)) ∧ (decode cX7_goods 65 = .ok (.iastore, 1)) ∧ (decode cX7_goods 66 = .ok (.aload_n 0, 1)) := by decide +kernel
theorem dX7_goods_48 : decode cX7_goods 48 = .ok (.bipush (-6), 2) := qd3_10.1
theorem dX7_goods_50 : decode cX7_goods 50 = .ok (.invokevirtual 94, 3) := qd3_10.2.1
theorem dX7_goods_53 : decode cX7_goods 53 = .ok (.ireturn, 1) := qd3_10.2.2.1
theorem dX7_goods_54 : decode cX7_goods 54 = .ok (.aload_n 0, 1) := qd3_10.2.2.2.1
theorem dX7_goods_55 : decode cX7_goods 55 = .ok (.getfield 48, 3) := qd3_10.2.2.2.2.1
theorem dX7_goods_58 : decode cX7_goods 58 = .ok (.aload_n 0, 1) := qd3_10.2.2.2.2.2.1
theorem dX7_goods_59 : decode cX7_goods 59 = .ok (.getfield 125, 3) := qd3_10.2.2.2.2.2.2.1
theorem dX7_goods_62 : decode cX7_goods 62 = .ok (.aaload, 1) := qd3_10.2.2.2.2.2.2.2.1
theorem dX7_goods_63 : decode cX7_goods 63 = .ok (.iconst 0, 1) := qd3_10.2.2.2.2.2.2.2.2.1
theorem dX7_goods_64 : decode cX7_goods 64 = .ok (.iload_n 1, 1) := qd3_10.2.2.2.2.2.2.2.2.2.1
theorem dX7_goods_65 : decode cX7_goods 65 = .ok (.iastore, 1) := qd3_10.2.2.2.2.2.2.2.2.2.2.1
theorem dX7_goods_66 : decode cX7_goods 66 = .ok (.aload_n 0, 1) := qd3_10.2.2.2.2.2.2.2.2.2.2.2
theorem qd3_11 : (decode cX7_goods 67 = .ok (.getfield 48, 3)) ∧ (decode cX7_goods 70 = .ok (.aload_n 0, 1)) ∧ (decode cX7_goods 71 = .ok (.getfield 125, 3)) ∧ (decode cX7_goods 74 = .ok (.aaload, 1)) ∧ (decode cX7_goods 75 = .ok (.iconst 1, 1)) ∧ (decode cX7_goods 76 = .ok (.iload_n 2, 1)) ∧ (decode cX7_goods 77 = .ok (.iastore, 1)) ∧ (decode cX7_goods 78 = .ok (.aload_n 0, 1)) ∧ (decode cX7_goods 79 = .ok (.getfield 48, 3)) ∧ (decode cX7_goods 82 = .ok (.aload_n 0, 1)) ∧ (decode cX7_goods 83 = .ok (.getfield 125, 3)) ∧ (decode cX7_goods 86 = .ok (.aaload, 1)) := by decide +kernel
theorem dX7_goods_67 : decode cX7_goods 67 = .ok (.getfield 48, 3) := qd3_11.1
theorem dX7_goods_70 : decode cX7_goods 70 = .ok (.aload_n 0, 1) := qd3_11.2.1
theorem dX7_goods_71 : decode cX7_goods 71 = .ok (.getfield 125, 3) := qd3_11.2.2.1
theorem dX7_goods_74 : decode cX7_goods 74 = .ok (.aaload, 1) := qd3_11.2.2.2.1
theorem dX7_goods_75 : decode cX7_goods 75 = .ok (.iconst 1, 1) := qd3_11.2.2.2.2.1
theorem dX7_goods_76 : decode cX7_goods 76 = .ok (.iload_n 2, 1) := qd3_11.2.2.2.2.2.1
theorem dX7_goods_77 : decode cX7_goods 77 = .ok (.iastore, 1) := qd3_11.2.2.2.2.2.2.1
theorem dX7_goods_78 : decode cX7_goods 78 = .ok (.aload_n 0, 1) := qd3_11.2.2.2.2.2.2.2.1
theorem dX7_goods_79 : decode cX7_goods 79 = .ok (.getfield 48, 3) := qd3_11.2.2.2.2.2.2.2.2.1
theorem dX7_goods_82 : decode cX7_goods 82 = .ok (.aload_n 0, 1) := qd3_11.2.2.2.2.2.2.2.2.2.1
theorem dX7_goods_83 : decode cX7_goods 83 = .ok (.getfield 125, 3) := qd3_11.2.2.2.2.2.2.2.2.2.2.1
theorem dX7_goods_86 : decode cX7_goods 86 = .ok (.aaload, 1) := qd3_11.2.2.2.2.2.2.2.2.2.2.2
theorem qd3_12 : (decode cX7_goods 87 = .ok (.iconst 2, 1)) ∧ (decode cX7_goods 88 = .ok (.iload_n 3, 1)) ∧ (decode cX7_goods 89 = .ok (.iastore, 1)) ∧ (decode cX7_goods 90 = .ok (.aload_n 0, 1)) ∧ (decode cX7_goods 91 = .ok (.dup, 1)) ∧ (decode cX7_goods 92 = .ok (.getfield 125, 3)) ∧ (decode cX7_goods 95 = .ok (.dup_x1, 1)) ∧ (decode cX7_goods 96 = .ok (.iconst 1, 1)) ∧ (decode cX7_goods 97 = .ok (.iadd, 1)) ∧ (decode cX7_goods 98 = .ok (.putfield 125, 3)) ∧ (decode cX7_goods 101 = .ok (.ireturn, 1)) := by decide +kernel
theorem dX7_goods_87 : decode cX7_goods 87 = .ok (.iconst 2, 1) := qd3_12.1
theorem dX7_goods_88 : decode cX7_goods 88 = .ok (.iload_n 3, 1) := qd3_12.2.1
theorem dX7_goods_89 : decode cX7_goods 89 = .ok (.iastore, 1) := qd3_12.2.2.1
theorem dX7_goods_90 : decode cX7_goods 90 = .ok (.aload_n 0, 1) := qd3_12.2.2.2.1
theorem dX7_goods_91 : decode cX7_goods 91 = .ok (.dup, 1) := qd3_12.2.2.2.2.1
theorem dX7_goods_92 : decode cX7_goods 92 = .ok (.getfield 125, 3) := qd3_12.2.2.2.2.2.1
theorem dX7_goods_95 : decode cX7_goods 95 = .ok (.dup_x1, 1) := qd3_12.2.2.2.2.2.2.1
theorem dX7_goods_96 : decode cX7_goods 96 = .ok (.iconst 1, 1) := qd3_12.2.2.2.2.2.2.2.1
theorem dX7_goods_97 : decode cX7_goods 97 = .ok (.iadd, 1) := qd3_12.2.2.2.2.2.2.2.2.1
theorem dX7_goods_98 : decode cX7_goods 98 = .ok (.putfield 125, 3) := qd3_12.2.2.2.2.2.2.2.2.2.1
theorem dX7_goods_101 : decode cX7_goods 101 = .ok (.ireturn, 1) := qd3_12.2.2.2.2.2.2.2.2.2.2
theorem qd3_13 : (decode cX7_mayBeFirst 0 = .ok (.iload_n 1, 1)) ∧ (decode cX7_mayBeFirst 1 = .ok (.iconst 1, 1)) ∧ (decode cX7_mayBeFirst 2 = .ok (.if_icmp .eq 8, 3)) ∧ (decode cX7_mayBeFirst 5 = .ok (.iload_n 1, 1)) ∧ (decode cX7_mayBeFirst 6 = .ok (.iconst 2, 1)) ∧ (decode cX7_mayBeFirst 7 = .ok (.if_icmp .ne 11, 3)) ∧ (decode cX7_mayBeFirst 10 = .ok (.aload_n 0, 1)) ∧ (decode cX7_mayBeFirst 11 = .ok (.iload_n 2, 1)) ∧ (decode cX7_mayBeFirst 12 = .ok (.invokevirtual 128, 3)) ∧ (decode cX7_mayBeFirst 15 = .ok (.goto 7, 3)) ∧ (decode cX7_mayBeFirst 18 = .ok (.iload_n 2, 1)) ∧ (decode cX7_mayBeFirst 19 = .ok (.invokestatic 112, 3)) := by decide +kernel
theorem dX7_mayBeFirst_0 : decode cX7_mayBeFirst 0 = .ok (.iload_n 1, 1) := qd3_13.1
theorem dX7_mayBeFirst_1 : decode cX7_mayBeFirst 1 = .ok (.iconst 1, 1) := qd3_13.2.1
theorem dX7_mayBeFirst_2 : decode cX7_mayBeFirst 2 = .ok (.if_icmp .eq 8, 3) := qd3_13.2.2.1
theorem dX7_mayBeFirst_5 : decode cX7_mayBeFirst 5 = .ok (.iload_n 1, 1) := qd3_13.2.2.2.1
theorem dX7_mayBeFirst_6 : decode cX7_mayBeFirst 6 = .ok (.iconst 2, 1) := qd3_13.2.2.2.2.1
theorem dX7_mayBeFirst_7 : decode cX7_mayBeFirst 7 = .ok (.if_icmp .ne 11, 3) := qd3_13.2.2.2.2.2.1
theorem dX7_mayBeFirst_10 : decode cX7_mayBeFirst 10 = .ok (.aload_n 0, 1) := qd3_13.2.2.2.2.2.2.1
theorem dX7_mayBeFirst_11 : decode cX7_mayBeFirst 11 = .ok (.iload_n 2, 1) := qd3_13.2.2.2.2.2.2.2.1
theorem dX7_mayBeFirst_12 : decode cX7_mayBeFirst 12 = .ok (.invokevirtual 128, 3) := qd3_13.2.2.2.2.2.2.2.2.1
theorem dX7_mayBeFirst_15 : decode cX7_mayBeFirst 15 = .ok (.goto 7, 3) := qd3_13.2.2.2.2.2.2.2.2.2.1
theorem dX7_mayBeFirst_18 : decode cX7_mayBeFirst 18 = .ok (.iload_n 2, 1) := qd3_13.2.2.2.2.2.2.2.2.2.2.1
theorem dX7_mayBeFirst_19 : decode cX7_mayBeFirst 19 = .ok (.invokestatic 112, 3) := qd3_13.2.2.2.2.2.2.2.2.2.2.2
theorem dX7_mayBeFirst_22 : decode cX7_mayBeFirst 22 = .ok (.ireturn, 1) := by decide +kernel
theorem qd3_14 : (decode cX7_mayBeSecond 0 = .ok (.iload_n 1, 1)) ∧ (decode cX7_mayBeSecond 1 = .ok (.iconst 1, 1)) ∧ (decode cX7_mayBeSecond 2 = .ok (.if_icmp .eq 8, 3)) ∧ (decode cX7_mayBeSecond 5 = .ok (.iload_n 1, 1)) ∧ (decode cX7_mayBeSecond 6 = .ok (.iconst 2, 1)) ∧ (decode cX7_mayBeSecond 7 = .ok (.if_icmp .ne 15, 3)) ∧ (decode cX7_mayBeSecond 10 = .ok (.iload_n 3, 1)) ∧ (decode cX7_mayBeSecond 11 = .ok (.i2l, 1)) ∧ (decode cX7_mayBeSecond 12 = .ok (.lconst 0, 1)) ∧ (decode cX7_mayBeSecond 13 = .ok (.ldc2_w 131, 3)) ∧ (decode cX7_mayBeSecond 16 = .ok (.invokestatic 78, 3)) ∧ (decode cX7_mayBeSecond 19 = .ok (.goto 37, 3)) := by decide +kernel
theorem dX7_mayBeSecond_0 : decode cX7_mayBeSecond 0 = .ok (.iload_n 1, 1) := qd3_14.1
theorem dX7_mayBeSecond_1 : decode cX7_mayBeSecond 1 = .ok (.iconst 1, 1) := qd3_14.2.1
theorem dX7_mayBeSecond_2 : decode cX7_mayBeSecond 2 = .ok (.if_icmp .eq 8, 3) := qd3_14.2.2.1
theorem dX7_mayBeSecond_5 : decode cX7_mayBeSecond 5 = .ok (.iload_n 1, 1) := qd3_14.2.2.2.1
theorem dX7_mayBeSecond_6 : decode cX7_mayBeSecond 6 = .ok (.iconst 2, 1) := qd3_14.2.2.2.2.1
theorem dX7_mayBeSecond_7 : decode cX7_mayBeSecond 7 = .ok (.if_icmp .ne 15, 3) := qd3_14.2.2.2.2.2.1
theorem dX7_mayBeSecond_10 : decode cX7_mayBeSecond 10 = .ok (.iload_n 3, 1) := qd3_14.2.2.2.2.2.2.1
theorem dX7_mayBeSecond_11 : decode cX7_mayBeSecond 11 = .ok (.i2l, 1) := qd3_14.2.2.2.2.2.2.2.1
theorem dX7_mayBeSecond_12 : decode cX7_mayBeSecond 12 = .ok (.lconst 0, 1) := qd3_14.2.2.2.2.2.2.2.2.1
theorem dX7_mayBeSecond_13 : decode cX7_mayBeSecond 13 = .ok (.ldc2_w 131, 3) := qd3_14.2.2.2.2.2.2.2.2.2.1
theorem dX7_mayBeSecond_16 : decode cX7_mayBeSecond 16 = .ok (.invokestatic 78, 3) := qd3_14.2.2.2.2.2.2.2.2.2.2.1
theorem dX7_mayBeSecond_19 : decode cX7_mayBeSecond 19 = .ok (.goto 37, 3) := qd3_14.2.2.2.2.2.2.2.2.2.2.2
theorem qd3_15 : (decode cX7_mayBeSecond 22 = .ok (.iload_n 1, 1)) ∧ (decode cX7_mayBeSecond 23 = .ok (.iconst 3, 1)) ∧ (decode cX7_mayBeSecond 24 = .ok (.if_icmp .ne 15, 3)) ∧ (decode cX7_mayBeSecond 27 = .ok (.iload_n 3, 1)) ∧ (decode cX7_mayBeSecond 28 = .ok (.i2l, 1)) ∧ (decode cX7_mayBeSecond 29 = .ok (.lconst 0, 1)) ∧ (decode cX7_mayBeSecond 30 = .ok (.ldc2_w 123, 3)) ∧ (decode cX7_mayBeSecond 33 = .ok (.invokestatic 78, 3)) ∧ (decode cX7_mayBeSecond 36 = .ok (.goto 20, 3)) ∧ (decode cX7_mayBeSecond 39 = .ok (.iload_n 3, 1)) ∧ (decode cX7_mayBeSecond 40 = .ok (.invokestatic 112, 3)) ∧ (decode cX7_mayBeSecond 43 = .ok (.ifCond .eq 12, 3)) := by decide +kernel
theorem dX7_mayBeSecond_22 : decode cX7_mayBeSecond 22 = .ok (.iload_n 1, 1) := qd3_15.1
theorem dX7_mayBeSecond_23 : decode cX7_mayBeSecond 23 = .ok (.iconst 3, 1) := qd3_15.2.1
theorem dX7_mayBeSecond_24 : decode cX7_mayBeSecond 24 = .ok (.if_icmp .ne 15, 3) := qd3_15.2.2.1
theorem dX7_mayBeSecond_27 : decode cX7_mayBeSecond 27 = .ok (.iload_n 3, 1) := qd3_15.2.2.2.1
theorem dX7_mayBeSecond_28 : decode cX7_mayBeSecond 28 = .ok (.i2l, 1) := qd3_15.2.2.2.2.1
theorem dX7_mayBeSecond_29 : decode cX7_mayBeSecond 29 = .ok (.lconst 0, 1) := qd3_15.2.2.2.2.2.1
theorem dX7_mayBeSecond_30 : decode cX7_mayBeSecond 30 = .ok (.ldc2_w 123, 3) := qd3_15.2.2.2.2.2.2.1
theorem dX7_mayBeSecond_33 : decode cX7_mayBeSecond 33 = .ok (.invokestatic 78, 3) := qd3_15.2.2.2.2.2.2.2.1
theorem dX7_mayBeSecond_36 : decode cX7_mayBeSecond 36 = .ok (.goto 20, 3) := qd3_15.2.2.2.2.2.2.2.2.1
theorem dX7_mayBeSecond_39 : decode cX7_mayBeSecond 39 = .ok (.iload_n 3, 1) := qd3_15.2.2.2.2.2.2.2.2.2.1
theorem dX7_mayBeSecond_40 : decode cX7_mayBeSecond 40 = .ok (.invokestatic 112, 3) := qd3_15.2.2.2.2.2.2.2.2.2.2.1
theorem dX7_mayBeSecond_43 : decode cX7_mayBeSecond 43 = .ok (.ifCond .eq 12, 3) := qd3_15.2.2.2.2.2.2.2.2.2.2.2
theorem qd3_16 : (decode cX7_mayBeSecond 46 = .ok (.iload_n 3, 1)) ∧ (decode cX7_mayBeSecond 47 = .ok (.iload_n 2, 1)) ∧ (decode cX7_mayBeSecond 48 = .ok (.if_icmp .eq 7, 3)) ∧ (decode cX7_mayBeSecond 51 = .ok (.iconst 1, 1)) ∧ (decode cX7_mayBeSecond 52 = .ok (.goto 4, 3)) ∧ (decode cX7_mayBeSecond 55 = .ok (.iconst 0, 1)) ∧ (decode cX7_mayBeSecond 56 = .ok (.ireturn, 1)) := by decide +kernel
theorem dX7_mayBeSecond_46 : decode cX7_mayBeSecond 46 = .ok (.iload_n 3, 1) := qd3_16.1
theorem dX7_mayBeSecond_47 : decode cX7_mayBeSecond 47 = .ok (.iload_n 2, 1) := qd3_16.2.1
theorem dX7_mayBeSecond_48 : decode cX7_mayBeSecond 48 = .ok (.if_icmp .eq 7, 3) := qd3_16.2.2.1
theorem dX7_mayBeSecond_51 : decode cX7_mayBeSecond 51 = .ok (.iconst 1, 1) := qd3_16.2.2.2.1
theorem dX7_mayBeSecond_52 : decode cX7_mayBeSecond 52 = .ok (.goto 4, 3) := qd3_16.2.2.2.2.1
theorem dX7_mayBeSecond_55 : decode cX7_mayBeSecond 55 = .ok (.iconst 0, 1) := qd3_16.2.2.2.2.2.1
theorem dX7_mayBeSecond_56 : decode cX7_mayBeSecond 56 = .ok (.ireturn, 1) := qd3_16.2.2.2.2.2.2
theorem qd3_17 : (decode cX7_work 0 = .ok (.iload_n 1, 1)) ∧ (decode cX7_work 1 = .ok (.i2l, 1)) ∧ (decode cX7_work 2 = .ok (.lconst 1, 1)) ∧ (decode cX7_work 3 = .ok (.ldc2_w 106, 3)) ∧ (decode cX7_work 6 = .ok (.invokestatic 78, 3)) ∧ (decode cX7_work 9 = .ok (.ifCond .eq 35, 3)) ∧ (decode cX7_work 12 = .ok (.aload_n 0, 1)) ∧ (decode cX7_work 13 = .ok (.iload_n 1, 1)) ∧ (decode cX7_work 14 = .ok (.iload_n 2, 1)) ∧ (decode cX7_work 15 = .ok (.invokevirtual 133, 3)) ∧ (decode cX7_work 18 = .ok (.ifCond .eq 26, 3)) ∧ (decode cX7_work 21 = .ok (.aload_n 0, 1)) := by decide +kernel
theorem dX7_work_0 : decode cX7_work 0 = .ok (.iload_n 1, 1) := qd3_17.1
theorem dX7_work_1 : decode cX7_work 1 = .ok (.i2l, 1) := qd3_17.2.1
theorem dX7_work_2 : decode cX7_work 2 = .ok (.lconst 1, 1) := qd3_17.2.2.1
theorem dX7_work_3 : decode cX7_work 3 = .ok (.ldc2_w 106, 3) := qd3_17.2.2.2.1
theorem dX7_work_6 : decode cX7_work 6 = .ok (.invokestatic 78, 3) := qd3_17.2.2.2.2.1
theorem dX7_work_9 : decode cX7_work 9 = .ok (.ifCond .eq 35, 3) := qd3_17.2.2.2.2.2.1
theorem dX7_work_12 : decode cX7_work 12 = .ok (.aload_n 0, 1) := qd3_17.2.2.2.2.2.2.1
theorem dX7_work_13 : decode cX7_work 13 = .ok (.iload_n 1, 1) := qd3_17.2.2.2.2.2.2.2.1
theorem dX7_work_14 : decode cX7_work 14 = .ok (.iload_n 2, 1) := qd3_17.2.2.2.2.2.2.2.2.1
theorem dX7_work_15 : decode cX7_work 15 = .ok (.invokevirtual 133, 3) := qd3_17.2.2.2.2.2.2.2.2.2.1
theorem dX7_work_18 : decode cX7_work 18 = .ok (.ifCond .eq 26, 3) := qd3_17.2.2.2.2.2.2.2.2.2.2.1
theorem dX7_work_21 : decode cX7_work 21 = .ok (.aload_n 0, 1) := qd3_17.2.2.2.2.2.2.2.2.2.2.2
theorem qd3_18 : (decode cX7_work 22 = .ok (.iload_n 1, 1)) ∧ (decode cX7_work 23 = .ok (.iload_n 2, 1)) ∧ (decode cX7_work 24 = .ok (.iload_n 3, 1)) ∧ (decode cX7_work 25 = .ok (.invokevirtual 136, 3)) ∧ (decode cX7_work 28 = .ok (.ifCond .eq 16, 3)) ∧ (decode cX7_work 31 = .ok (.iload 4, 2)) ∧ (decode cX7_work 33 = .ok (.i2l, 1)) ∧ (decode cX7_work 34 = .ok (.lconst 0, 1)) ∧ (decode cX7_work 35 = .ok (.ldc2_w 140, 3)) ∧ (decode cX7_work 38 = .ok (.invokestatic 78, 3)) ∧ (decode cX7_work 41 = .ok (.ifCond .ne 10, 3)) ∧ (decode cX7_work 44 = .ok (.aload_n 0, 1)) := by decide +kernel
theorem dX7_work_22 : decode cX7_work 22 = .ok (.iload_n 1, 1) := qd3_18.1
theorem dX7_work_23 : decode cX7_work 23 = .ok (.iload_n 2, 1) := qd3_18.2.1
theorem dX7_work_24 : decode cX7_work 24 = .ok (.iload_n 3, 1) := qd3_18.2.2.1
theorem dX7_work_25 : decode cX7_work 25 = .ok (.invokevirtual 136, 3) := qd3_18.2.2.2.1
theorem dX7_work_28 : decode cX7_work 28 = .ok (.ifCond .eq 16, 3) := qd3_18.2.2.2.2.1
theorem dX7_work_31 : decode cX7_work 31 = .ok (.iload 4, 2) := qd3_18.2.2.2.2.2.1
theorem dX7_work_33 : decode cX7_work 33 = .ok (.i2l, 1) := qd3_18.2.2.2.2.2.2.1
theorem dX7_work_34 : decode cX7_work 34 = .ok (.lconst 0, 1) := qd3_18.2.2.2.2.2.2.2.1
theorem dX7_work_35 : decode cX7_work 35 = .ok (.ldc2_w 140, 3) := qd3_18.2.2.2.2.2.2.2.2.1
theorem dX7_work_38 : decode cX7_work 38 = .ok (.invokestatic 78, 3) := qd3_18.2.2.2.2.2.2.2.2.2.1
theorem dX7_work_41 : decode cX7_work 41 = .ok (.ifCond .ne 10, 3) := qd3_18.2.2.2.2.2.2.2.2.2.2.1
theorem dX7_work_44 : decode cX7_work 44 = .ok (.aload_n 0, 1) := qd3_18.2.2.2.2.2.2.2.2.2.2.2
theorem qd3_19 : (decode cX7_work 45 = .ok (.bipush (-2), 2)) ∧ (decode cX7_work 47 = .ok (.invokevirtual 94, 3)) ∧ (decode cX7_work 50 = .ok (.ireturn, 1)) ∧ (decode cX7_work 51 = .ok (.aload_n 0, 1)) ∧ (decode cX7_work 52 = .ok (.getfield 85, 3)) ∧ (decode cX7_work 55 = .ok (.bipush 7, 2)) ∧ (decode cX7_work 57 = .ok (.if_icmp .ne 10, 3)) ∧ (decode cX7_work 60 = .ok (.aload_n 0, 1)) ∧ (decode cX7_work 61 = .ok (.bipush (-6), 2)) ∧ (decode cX7_work 63 = .ok (.invokevirtual 94, 3)) ∧ (decode cX7_work 66 = .ok (.ireturn, 1)) ∧ (decode cX7_work 67 = .ok (.aload_n 0, 1)) := by decide +kernel
theorem dX7_work_45 : decode cX7_work 45 = .ok (.bipush (-2), 2) := qd3_19.1
theorem dX7_work_47 : decode cX7_work 47 = .ok (.invokevirtual 94, 3) := qd3_19.2.1
theorem dX7_work_50 : decode cX7_work 50 = .ok (.ireturn, 1) := qd3_19.2.2.1
theorem dX7_work_51 : decode cX7_work 51 = .ok (.aload_n 0, 1) := qd3_19.2.2.2.1
theorem dX7_work_52 : decode cX7_work 52 = .ok (.getfield 85, 3) := qd3_19.2.2.2.2.1
theorem dX7_work_55 : decode cX7_work 55 = .ok (.bipush 7, 2) := qd3_19.2.2.2.2.2.1
theorem dX7_work_57 : decode cX7_work 57 = .ok (.if_icmp .ne 10, 3) := qd3_19.2.2.2.2.2.2.1
theorem dX7_work_60 : decode cX7_work 60 = .ok (.aload_n 0, 1) := qd3_19.2.2.2.2.2.2.2.1
theorem dX7_work_61 : decode cX7_work 61 = .ok (.bipush (-6), 2) := qd3_19.2.2.2.2.2.2.2.2.1
theorem dX7_work_63 : decode cX7_work 63 = .ok (.invokevirtual 94, 3) := qd3_19.2.2.2.2.2.2.2.2.2.1
theorem dX7_work_66 : decode cX7_work 66 = .ok (.ireturn, 1) := qd3_19.2.2.2.2.2.2.2.2.2.2.1
theorem dX7_work_67 : decode cX7_work 67 = .ok (.aload_n 0, 1) := qd3_19.2.2.2.2.2.2.2.2.2.2.2
theorem qd3_20 : (decode cX7_work 68 = .ok (.getfield 51, 3)) ∧ (decode cX7_work 71 = .ok (.aload_n 0, 1)) ∧ (decode cX7_work 72 = .ok (.getfield 85, 3)) ∧ (decode cX7_work 75 = .ok (.aaload, 1)) ∧ (decode cX7_work 76 = .ok (.astore 5, 2)) ∧ (decode cX7_work 78 = .ok (.aload 5, 2)) ∧ (decode cX7_work 80 = .ok (.iconst 0, 1)) ∧ (decode cX7_work 81 = .ok (.iload_n 1, 1)) ∧ (decode cX7_work 82 = .ok (.iastore, 1)) ∧ (decode cX7_work 83 = .ok (.aload 5, 2)) ∧ (decode cX7_work 85 = .ok (.iconst 1, 1)) ∧ (decode cX7_work 86 = .ok (.iload_n 2, 1)) := by decide +kernel
theorem dX7_work_68 : decode cX7_work 68 = .ok (.getfield 51, 3) := qd3_20.1
theorem dX7_work_71 : decode cX7_work 71 = .ok (.aload_n 0, 1) := qd3_20.2.1
theorem dX7_work_72 : decode cX7_work 72 = .ok (.getfield 85, 3) := qd3_20.2.2.1
theorem dX7_work_75 : decode cX7_work 75 = .ok (.aaload, 1) := qd3_20.2.2.2.1
theorem dX7_work_76 : decode cX7_work 76 = .ok (.astore 5, 2) := qd3_20.2.2.2.2.1
theorem dX7_work_78 : decode cX7_work 78 = .ok (.aload 5, 2) := qd3_20.2.2.2.2.2.1
theorem dX7_work_80 : decode cX7_work 80 = .ok (.iconst 0, 1) := qd3_20.2.2.2.2.2.2.1
theorem dX7_work_81 : decode cX7_work 81 = .ok (.iload_n 1, 1) := qd3_20.2.2.2.2.2.2.2.1
theorem dX7_work_82 : decode cX7_work 82 = .ok (.iastore, 1) := qd3_20.2.2.2.2.2.2.2.2.1
theorem dX7_work_83 : decode cX7_work 83 = .ok (.aload 5, 2) := qd3_20.2.2.2.2.2.2.2.2.2.1
theorem dX7_work_85 : decode cX7_work 85 = .ok (.iconst 1, 1) := qd3_20.2.2.2.2.2.2.2.2.2.2.1
theorem dX7_work_86 : decode cX7_work 86 = .ok (.iload_n 2, 1) := qd3_20.2.2.2.2.2.2.2.2.2.2.2
theorem qd3_21 : (decode cX7_work 87 = .ok (.iastore, 1)) ∧ (decode cX7_work 88 = .ok (.aload 5, 2)) ∧ (decode cX7_work 90 = .ok (.iconst 2, 1)) ∧ (decode cX7_work 91 = .ok (.iload_n 3, 1)) ∧ (decode cX7_work 92 = .ok (.iastore, 1)) ∧ (decode cX7_work 93 = .ok (.aload 5, 2)) ∧ (decode cX7_work 95 = .ok (.iconst 3, 1)) ∧ (decode cX7_work 96 = .ok (.iload 4, 2)) ∧ (decode cX7_work 98 = .ok (.iastore, 1)) ∧ (decode cX7_work 99 = .ok (.aload 5, 2)) ∧ (decode cX7_work 101 = .ok (.iconst 4, 1)) ∧ (decode cX7_work 102 = .ok (.iconst 0, 1)) := by decide +kernel
theorem dX7_work_87 : decode cX7_work 87 = .ok (.iastore, 1) := qd3_21.1
theorem dX7_work_88 : decode cX7_work 88 = .ok (.aload 5, 2) := qd3_21.2.1
theorem dX7_work_90 : decode cX7_work 90 = .ok (.iconst 2, 1) := qd3_21.2.2.1
theorem dX7_work_91 : decode cX7_work 91 = .ok (.iload_n 3, 1) := qd3_21.2.2.2.1
theorem dX7_work_92 : decode cX7_work 92 = .ok (.iastore, 1) := qd3_21.2.2.2.2.1
theorem dX7_work_93 : decode cX7_work 93 = .ok (.aload 5, 2) := qd3_21.2.2.2.2.2.1
theorem dX7_work_95 : decode cX7_work 95 = .ok (.iconst 3, 1) := qd3_21.2.2.2.2.2.2.1
theorem dX7_work_96 : decode cX7_work 96 = .ok (.iload 4, 2) := qd3_21.2.2.2.2.2.2.2.1
theorem dX7_work_98 : decode cX7_work 98 = .ok (.iastore, 1) := qd3_21.2.2.2.2.2.2.2.2.1
theorem dX7_work_99 : decode cX7_work 99 = .ok (.aload 5, 2) := qd3_21.2.2.2.2.2.2.2.2.2.1
theorem dX7_work_101 : decode cX7_work 101 = .ok (.iconst 4, 1) := qd3_21.2.2.2.2.2.2.2.2.2.2.1
theorem dX7_work_102 : decode cX7_work 102 = .ok (.iconst 0, 1) := qd3_21.2.2.2.2.2.2.2.2.2.2.2
theorem qd3_22 : (decode cX7_work 103 = .ok (.iastore, 1)) ∧ (decode cX7_work 104 = .ok (.aload_n 0, 1)) ∧ (decode cX7_work 105 = .ok (.dup, 1)) ∧ (decode cX7_work 106 = .ok (.getfield 85, 3)) ∧ (decode cX7_work 109 = .ok (.dup_x1, 1)) ∧ (decode cX7_work 110 = .ok (.iconst 1, 1)) ∧ (decode cX7_work 111 = .ok (.iadd, 1)) ∧ (decode cX7_work 112 = .ok (.putfield 85, 3)) ∧ (decode cX7_work 115 = .ok (.ireturn, 1)) := by decide +kernel
theorem dX7_work_103 : decode cX7_work 103 = .ok (.iastore, 1) := qd3_22.1
theorem dX7_work_104 : decode cX7_work 104 = .ok (.aload_n 0, 1) := qd3_22.2.1
theorem dX7_work_105 : decode cX7_work 105 = .ok (.dup, 1) := qd3_22.2.2.1
theorem dX7_work_106 : decode cX7_work 106 = .ok (.getfield 85, 3) := qd3_22.2.2.2.1
theorem dX7_work_109 : decode cX7_work 109 = .ok (.dup_x1, 1) := qd3_22.2.2.2.2.1
theorem dX7_work_110 : decode cX7_work 110 = .ok (.iconst 1, 1) := qd3_22.2.2.2.2.2.1
theorem dX7_work_111 : decode cX7_work 111 = .ok (.iadd, 1) := qd3_22.2.2.2.2.2.2.1
theorem dX7_work_112 : decode cX7_work 112 = .ok (.putfield 85, 3) := qd3_22.2.2.2.2.2.2.2.1
theorem dX7_work_115 : decode cX7_work 115 = .ok (.ireturn, 1) := qd3_22.2.2.2.2.2.2.2.2
theorem qd3_23 : (decode cX7_change 0 = .ok (.iload_n 1, 1)) ∧ (decode cX7_change 1 = .ok (.invokestatic 112, 3)) ∧ (decode cX7_change 4 = .ok (.ifCond .eq 15, 3)) ∧ (decode cX7_change 7 = .ok (.iload_n 2, 1)) ∧ (decode cX7_change 8 = .ok (.i2l, 1)) ∧ (decode cX7_change 9 = .ok (.lconst 0, 1)) ∧ (decode cX7_change 10 = .ok (.ldc2_w 123, 3)) ∧ (decode cX7_change 13 = .ok (.invokestatic 78, 3)) ∧ (decode cX7_change 16 = .ok (.ifCond .ne 10, 3)) ∧ (decode cX7_change 19 = .ok (.aload_n 0, 1)) ∧ (decode cX7_change 20 = .ok (.bipush (-2), 2)) ∧ (decode cX7_change 22 = .ok (.invokevirtual 94, 3)) := by decide +kernel
theorem dX7_change_0 : decode cX7_change 0 = .ok (.iload_n 1, 1) := qd3_23.1
theorem dX7_change_1 : decode cX7_change 1 = .ok (.invokestatic 112, 3) := qd3_23.2.1
theorem dX7_change_4 : decode cX7_change 4 = .ok (.ifCond .eq 15, 3) := qd3_23.2.2.1
theorem dX7_change_7 : decode cX7_change 7 = .ok (.iload_n 2, 1) := qd3_23.2.2.2.1
theorem dX7_change_8 : decode cX7_change 8 = .ok (.i2l, 1) := qd3_23.2.2.2.2.1
theorem dX7_change_9 : decode cX7_change 9 = .ok (.lconst 0, 1) := qd3_23.2.2.2.2.2.1
theorem dX7_change_10 : decode cX7_change 10 = .ok (.ldc2_w 123, 3) := qd3_23.2.2.2.2.2.2.1
theorem dX7_change_13 : decode cX7_change 13 = .ok (.invokestatic 78, 3) := qd3_23.2.2.2.2.2.2.2.1
theorem dX7_change_16 : decode cX7_change 16 = .ok (.ifCond .ne 10, 3) := qd3_23.2.2.2.2.2.2.2.2.1
theorem dX7_change_19 : decode cX7_change 19 = .ok (.aload_n 0, 1) := qd3_23.2.2.2.2.2.2.2.2.2.1
theorem dX7_change_20 : decode cX7_change 20 = .ok (.bipush (-2), 2) := qd3_23.2.2.2.2.2.2.2.2.2.2.1
theorem dX7_change_22 : decode cX7_change 22 = .ok (.invokevirtual 94, 3) := qd3_23.2.2.2.2.2.2.2.2.2.2.2
theorem qd3_24 : (decode cX7_change 25 = .ok (.ireturn, 1)) ∧ (decode cX7_change 26 = .ok (.aload_n 0, 1)) ∧ (decode cX7_change 27 = .ok (.getfield 42, 3)) ∧ (decode cX7_change 30 = .ok (.iload_n 1, 1)) ∧ (decode cX7_change 31 = .ok (.iaload, 1)) ∧ (decode cX7_change 32 = .ok (.istore_n 3, 1)) ∧ (decode cX7_change 33 = .ok (.aload_n 0, 1)) ∧ (decode cX7_change 34 = .ok (.getfield 42, 3)) ∧ (decode cX7_change 37 = .ok (.iload_n 1, 1)) ∧ (decode cX7_change 38 = .ok (.iload_n 2, 1)) ∧ (decode cX7_change 39 = .ok (.iastore, 1)) ∧ (decode cX7_change 40 = .ok (.iload_n 3, 1)) := by decide +kernel
theorem dX7_change_25 : decode cX7_change 25 = .ok (.ireturn, 1) := qd3_24.1
theorem dX7_change_26 : decode cX7_change 26 = .ok (.aload_n 0, 1) := qd3_24.2.1
theorem dX7_change_27 : decode cX7_change 27 = .ok (.getfield 42, 3) := qd3_24.2.2.1
theorem dX7_change_30 : decode cX7_change 30 = .ok (.iload_n 1, 1) := qd3_24.2.2.2.1
theorem dX7_change_31 : decode cX7_change 31 = .ok (.iaload, 1) := qd3_24.2.2.2.2.1
theorem dX7_change_32 : decode cX7_change 32 = .ok (.istore_n 3, 1) := qd3_24.2.2.2.2.2.1
theorem dX7_change_33 : decode cX7_change 33 = .ok (.aload_n 0, 1) := qd3_24.2.2.2.2.2.2.1
theorem dX7_change_34 : decode cX7_change 34 = .ok (.getfield 42, 3) := qd3_24.2.2.2.2.2.2.2.1
theorem dX7_change_37 : decode cX7_change 37 = .ok (.iload_n 1, 1) := qd3_24.2.2.2.2.2.2.2.2.1
theorem dX7_change_38 : decode cX7_change 38 = .ok (.iload_n 2, 1) := qd3_24.2.2.2.2.2.2.2.2.2.1
theorem dX7_change_39 : decode cX7_change 39 = .ok (.iastore, 1) := qd3_24.2.2.2.2.2.2.2.2.2.2.1
theorem dX7_change_40 : decode cX7_change 40 = .ok (.iload_n 3, 1) := qd3_24.2.2.2.2.2.2.2.2.2.2.2
theorem dX7_change_41 : decode cX7_change 41 = .ok (.ireturn, 1) := by decide +kernel
theorem qd3_25 : (decode cX7_coin 0 = .ok (.iload_n 1, 1)) ∧ (decode cX7_coin 1 = .ok (.i2l, 1)) ∧ (decode cX7_coin 2 = .ok (.lconst 0, 1)) ∧ (decode cX7_coin 3 = .ok (.ldc2_w 131, 3)) ∧ (decode cX7_coin 6 = .ok (.invokestatic 78, 3)) ∧ (decode cX7_coin 9 = .ok (.ifCond .eq 15, 3)) ∧ (decode cX7_coin 12 = .ok (.iload_n 2, 1)) ∧ (decode cX7_coin 13 = .ok (.i2l, 1)) ∧ (decode cX7_coin 14 = .ok (.lconst 0, 1)) ∧ (decode cX7_coin 15 = .ok (.ldc2_w 142, 3)) ∧ (decode cX7_coin 18 = .ok (.invokestatic 78, 3)) ∧ (decode cX7_coin 21 = .ok (.ifCond .ne 10, 3)) := by decide +kernel
theorem dX7_coin_0 : decode cX7_coin 0 = .ok (.iload_n 1, 1) := qd3_25.1
theorem dX7_coin_1 : decode cX7_coin 1 = .ok (.i2l, 1) := qd3_25.2.1
theorem dX7_coin_2 : decode cX7_coin 2 = .ok (.lconst 0, 1) := qd3_25.2.2.1
theorem dX7_coin_3 : decode cX7_coin 3 = .ok (.ldc2_w 131, 3) := qd3_25.2.2.2.1
theorem dX7_coin_6 : decode cX7_coin 6 = .ok (.invokestatic 78, 3) := qd3_25.2.2.2.2.1
theorem dX7_coin_9 : decode cX7_coin 9 = .ok (.ifCond .eq 15, 3) := qd3_25.2.2.2.2.2.1
theorem dX7_coin_12 : decode cX7_coin 12 = .ok (.iload_n 2, 1) := qd3_25.2.2.2.2.2.2.1
theorem dX7_coin_13 : decode cX7_coin 13 = .ok (.i2l, 1) := qd3_25.2.2.2.2.2.2.2.1
theorem dX7_coin_14 : decode cX7_coin 14 = .ok (.lconst 0, 1) := qd3_25.2.2.2.2.2.2.2.2.1
theorem dX7_coin_15 : decode cX7_coin 15 = .ok (.ldc2_w 142, 3) := qd3_25.2.2.2.2.2.2.2.2.2.1
theorem dX7_coin_18 : decode cX7_coin 18 = .ok (.invokestatic 78, 3) := qd3_25.2.2.2.2.2.2.2.2.2.2.1
theorem dX7_coin_21 : decode cX7_coin 21 = .ok (.ifCond .ne 10, 3) := qd3_25.2.2.2.2.2.2.2.2.2.2.2
theorem qd3_26 : (decode cX7_coin 24 = .ok (.aload_n 0, 1)) ∧ (decode cX7_coin 25 = .ok (.bipush (-2), 2)) ∧ (decode cX7_coin 27 = .ok (.invokevirtual 94, 3)) ∧ (decode cX7_coin 30 = .ok (.ireturn, 1)) ∧ (decode cX7_coin 31 = .ok (.aload_n 0, 1)) ∧ (decode cX7_coin 32 = .ok (.getfield 45, 3)) ∧ (decode cX7_coin 35 = .ok (.iload_n 1, 1)) ∧ (decode cX7_coin 36 = .ok (.iaload, 1)) ∧ (decode cX7_coin 37 = .ok (.istore_n 3, 1)) ∧ (decode cX7_coin 38 = .ok (.aload_n 0, 1)) ∧ (decode cX7_coin 39 = .ok (.getfield 45, 3)) ∧ (decode cX7_coin 42 = .ok (.iload_n 1, 1)) := by decide +kernel
theorem dX7_coin_24 : decode cX7_coin 24 = .ok (.aload_n 0, 1) := qd3_26.1
theorem dX7_coin_25 : decode cX7_coin 25 = .ok (.bipush (-2), 2) := qd3_26.2.1
theorem dX7_coin_27 : decode cX7_coin 27 = .ok (.invokevirtual 94, 3) := qd3_26.2.2.1
theorem dX7_coin_30 : decode cX7_coin 30 = .ok (.ireturn, 1) := qd3_26.2.2.2.1
theorem dX7_coin_31 : decode cX7_coin 31 = .ok (.aload_n 0, 1) := qd3_26.2.2.2.2.1
theorem dX7_coin_32 : decode cX7_coin 32 = .ok (.getfield 45, 3) := qd3_26.2.2.2.2.2.1
theorem dX7_coin_35 : decode cX7_coin 35 = .ok (.iload_n 1, 1) := qd3_26.2.2.2.2.2.2.1
theorem dX7_coin_36 : decode cX7_coin 36 = .ok (.iaload, 1) := qd3_26.2.2.2.2.2.2.2.1
theorem dX7_coin_37 : decode cX7_coin 37 = .ok (.istore_n 3, 1) := qd3_26.2.2.2.2.2.2.2.2.1
theorem dX7_coin_38 : decode cX7_coin 38 = .ok (.aload_n 0, 1) := qd3_26.2.2.2.2.2.2.2.2.2.1
theorem dX7_coin_39 : decode cX7_coin 39 = .ok (.getfield 45, 3) := qd3_26.2.2.2.2.2.2.2.2.2.2.1
theorem dX7_coin_42 : decode cX7_coin 42 = .ok (.iload_n 1, 1) := qd3_26.2.2.2.2.2.2.2.2.2.2.2
theorem qd3_27 : (decode cX7_coin 43 = .ok (.iload_n 2, 1)) ∧ (decode cX7_coin 44 = .ok (.iastore, 1)) ∧ (decode cX7_coin 45 = .ok (.iload_n 3, 1)) ∧ (decode cX7_coin 46 = .ok (.ireturn, 1)) := by decide +kernel
theorem dX7_coin_43 : decode cX7_coin 43 = .ok (.iload_n 2, 1) := qd3_27.1
theorem dX7_coin_44 : decode cX7_coin 44 = .ok (.iastore, 1) := qd3_27.2.1
theorem dX7_coin_45 : decode cX7_coin 45 = .ok (.iload_n 3, 1) := qd3_27.2.2.1
theorem dX7_coin_46 : decode cX7_coin 46 = .ok (.ireturn, 1) := qd3_27.2.2.2
theorem qd3_28 : (decode cX7_years 0 = .ok (.iload_n 1, 1)) ∧ (decode cX7_years 1 = .ok (.i2l, 1)) ∧ (decode cX7_years 2 = .ok (.lconst 1, 1)) ∧ (decode cX7_years 3 = .ok (.ldc2_w 144, 3)) ∧ (decode cX7_years 6 = .ok (.invokestatic 78, 3)) ∧ (decode cX7_years 9 = .ok (.ifCond .ne 10, 3)) ∧ (decode cX7_years 12 = .ok (.aload_n 0, 1)) ∧ (decode cX7_years 13 = .ok (.bipush (-2), 2)) ∧ (decode cX7_years 15 = .ok (.invokevirtual 94, 3)) ∧ (decode cX7_years 18 = .ok (.ireturn, 1)) ∧ (decode cX7_years 19 = .ok (.aload_n 0, 1)) ∧ (decode cX7_years 20 = .ok (.getfield 54, 3)) := by decide +kernel
theorem dX7_years_0 : decode cX7_years 0 = .ok (.iload_n 1, 1) := qd3_28.1
theorem dX7_years_1 : decode cX7_years 1 = .ok (.i2l, 1) := qd3_28.2.1
theorem dX7_years_2 : decode cX7_years 2 = .ok (.lconst 1, 1) := qd3_28.2.2.1
theorem dX7_years_3 : decode cX7_years 3 = .ok (.ldc2_w 144, 3) := qd3_28.2.2.2.1
theorem dX7_years_6 : decode cX7_years 6 = .ok (.invokestatic 78, 3) := qd3_28.2.2.2.2.1
theorem dX7_years_9 : decode cX7_years 9 = .ok (.ifCond .ne 10, 3) := qd3_28.2.2.2.2.2.1
theorem dX7_years_12 : decode cX7_years 12 = .ok (.aload_n 0, 1) := qd3_28.2.2.2.2.2.2.1
theorem dX7_years_13 : decode cX7_years 13 = .ok (.bipush (-2), 2) := qd3_28.2.2.2.2.2.2.2.1
theorem dX7_years_15 : decode cX7_years 15 = .ok (.invokevirtual 94, 3) := qd3_28.2.2.2.2.2.2.2.2.1
theorem dX7_years_18 : decode cX7_years 18 = .ok (.ireturn, 1) := qd3_28.2.2.2.2.2.2.2.2.2.1
theorem dX7_years_19 : decode cX7_years 19 = .ok (.aload_n 0, 1) := qd3_28.2.2.2.2.2.2.2.2.2.2.1
theorem dX7_years_20 : decode cX7_years 20 = .ok (.getfield 54, 3) := qd3_28.2.2.2.2.2.2.2.2.2.2.2
theorem qd3_29 : (decode cX7_years 23 = .ok (.istore_n 2, 1)) ∧ (decode cX7_years 24 = .ok (.aload_n 0, 1)) ∧ (decode cX7_years 25 = .ok (.iload_n 1, 1)) ∧ (decode cX7_years 26 = .ok (.putfield 54, 3)) ∧ (decode cX7_years 29 = .ok (.iload_n 2, 1)) ∧ (decode cX7_years 30 = .ok (.ireturn, 1)) := by decide +kernel
theorem dX7_years_23 : decode cX7_years 23 = .ok (.istore_n 2, 1) := qd3_29.1
theorem dX7_years_24 : decode cX7_years 24 = .ok (.aload_n 0, 1) := qd3_29.2.1
theorem dX7_years_25 : decode cX7_years 25 = .ok (.iload_n 1, 1) := qd3_29.2.2.1
theorem dX7_years_26 : decode cX7_years 26 = .ok (.putfield 54, 3) := qd3_29.2.2.2.1
theorem dX7_years_29 : decode cX7_years 29 = .ok (.iload_n 2, 1) := qd3_29.2.2.2.2.1
theorem dX7_years_30 : decode cX7_years 30 = .ok (.ireturn, 1) := qd3_29.2.2.2.2.2
theorem qd3_30 : (decode cX7_washed 0 = .ok (.aload_n 0, 1)) ∧ (decode cX7_washed 1 = .ok (.iload_n 1, 1)) ∧ (decode cX7_washed 2 = .ok (.invokevirtual 128, 3)) ∧ (decode cX7_washed 5 = .ok (.ifCond .ne 10, 3)) ∧ (decode cX7_washed 8 = .ok (.aload_n 0, 1)) ∧ (decode cX7_washed 9 = .ok (.bipush (-2), 2)) ∧ (decode cX7_washed 11 = .ok (.invokevirtual 94, 3)) ∧ (decode cX7_washed 14 = .ok (.ireturn, 1)) ∧ (decode cX7_washed 15 = .ok (.aload_n 0, 1)) ∧ (decode cX7_washed 16 = .ok (.getfield 39, 3)) ∧ (decode cX7_washed 19 = .ok (.iload_n 1, 1)) ∧ (decode cX7_washed 20 = .ok (.aaload, 1)) := by decide +kernel
theorem dX7_washed_0 : decode cX7_washed 0 = .ok (.aload_n 0, 1) := qd3_30.1
theorem dX7_washed_1 : decode cX7_washed 1 = .ok (.iload_n 1, 1) := qd3_30.2.1
theorem dX7_washed_2 : decode cX7_washed 2 = .ok (.invokevirtual 128, 3) := qd3_30.2.2.1
theorem dX7_washed_5 : decode cX7_washed 5 = .ok (.ifCond .ne 10, 3) := qd3_30.2.2.2.1
theorem dX7_washed_8 : decode cX7_washed 8 = .ok (.aload_n 0, 1) := qd3_30.2.2.2.2.1
theorem dX7_washed_9 : decode cX7_washed 9 = .ok (.bipush (-2), 2) := qd3_30.2.2.2.2.2.1
theorem dX7_washed_11 : decode cX7_washed 11 = .ok (.invokevirtual 94, 3) := qd3_30.2.2.2.2.2.2.1
theorem dX7_washed_14 : decode cX7_washed 14 = .ok (.ireturn, 1) := qd3_30.2.2.2.2.2.2.2.1
theorem dX7_washed_15 : decode cX7_washed 15 = .ok (.aload_n 0, 1) := qd3_30.2.2.2.2.2.2.2.2.1
theorem dX7_washed_16 : decode cX7_washed 16 = .ok (.getfield 39, 3) := qd3_30.2.2.2.2.2.2.2.2.2.1
theorem dX7_washed_19 : decode cX7_washed 19 = .ok (.iload_n 1, 1) := qd3_30.2.2.2.2.2.2.2.2.2.2.1
theorem dX7_washed_20 : decode cX7_washed 20 = .ok (.aaload, 1) := qd3_30.2.2.2.2.2.2.2.2.2.2.2
theorem qd3_31 : (decode cX7_washed 21 = .ok (.bipush 6, 2)) ∧ (decode cX7_washed 23 = .ok (.iaload, 1)) ∧ (decode cX7_washed 24 = .ok (.istore_n 3, 1)) ∧ (decode cX7_washed 25 = .ok (.aload_n 0, 1)) ∧ (decode cX7_washed 26 = .ok (.getfield 39, 3)) ∧ (decode cX7_washed 29 = .ok (.iload_n 1, 1)) ∧ (decode cX7_washed 30 = .ok (.aaload, 1)) ∧ (decode cX7_washed 31 = .ok (.bipush 6, 2)) ∧ (decode cX7_washed 33 = .ok (.iload_n 2, 1)) ∧ (decode cX7_washed 34 = .ok (.ifCond .eq 7, 3)) ∧ (decode cX7_washed 37 = .ok (.iconst 1, 1)) ∧ (decode cX7_washed 38 = .ok (.goto 4, 3)) := by decide +kernel
theorem dX7_washed_21 : decode cX7_washed 21 = .ok (.bipush 6, 2) := qd3_31.1
theorem dX7_washed_23 : decode cX7_washed 23 = .ok (.iaload, 1) := qd3_31.2.1
theorem dX7_washed_24 : decode cX7_washed 24 = .ok (.istore_n 3, 1) := qd3_31.2.2.1
theorem dX7_washed_25 : decode cX7_washed 25 = .ok (.aload_n 0, 1) := qd3_31.2.2.2.1
theorem dX7_washed_26 : decode cX7_washed 26 = .ok (.getfield 39, 3) := qd3_31.2.2.2.2.1
theorem dX7_washed_29 : decode cX7_washed 29 = .ok (.iload_n 1, 1) := qd3_31.2.2.2.2.2.1
theorem dX7_washed_30 : decode cX7_washed 30 = .ok (.aaload, 1) := qd3_31.2.2.2.2.2.2.1
theorem dX7_washed_31 : decode cX7_washed 31 = .ok (.bipush 6, 2) := qd3_31.2.2.2.2.2.2.2.1
theorem dX7_washed_33 : decode cX7_washed 33 = .ok (.iload_n 2, 1) := qd3_31.2.2.2.2.2.2.2.2.1
theorem dX7_washed_34 : decode cX7_washed 34 = .ok (.ifCond .eq 7, 3) := qd3_31.2.2.2.2.2.2.2.2.2.1
theorem dX7_washed_37 : decode cX7_washed 37 = .ok (.iconst 1, 1) := qd3_31.2.2.2.2.2.2.2.2.2.2.1
theorem dX7_washed_38 : decode cX7_washed 38 = .ok (.goto 4, 3) := qd3_31.2.2.2.2.2.2.2.2.2.2.2
theorem qd3_32 : (decode cX7_washed 41 = .ok (.iconst 0, 1)) ∧ (decode cX7_washed 42 = .ok (.iastore, 1)) ∧ (decode cX7_washed 43 = .ok (.iload_n 3, 1)) ∧ (decode cX7_washed 44 = .ok (.aload_n 0, 1)) ∧ (decode cX7_washed 45 = .ok (.getfield 39, 3)) ∧ (decode cX7_washed 48 = .ok (.iload_n 1, 1)) ∧ (decode cX7_washed 49 = .ok (.aaload, 1)) ∧ (decode cX7_washed 50 = .ok (.bipush 6, 2)) ∧ (decode cX7_washed 52 = .ok (.iaload, 1)) ∧ (decode cX7_washed 53 = .ok (.if_icmp .eq 7, 3)) ∧ (decode cX7_washed 56 = .ok (.iconst 1, 1)) ∧ (decode cX7_washed 57 = .ok (.goto 4, 3)) := by decide +kernel
theorem dX7_washed_41 : decode cX7_washed 41 = .ok (.iconst 0, 1) := qd3_32.1
theorem dX7_washed_42 : decode cX7_washed 42 = .ok (.iastore, 1) := qd3_32.2.1
theorem dX7_washed_43 : decode cX7_washed 43 = .ok (.iload_n 3, 1) := qd3_32.2.2.1
theorem dX7_washed_44 : decode cX7_washed 44 = .ok (.aload_n 0, 1) := qd3_32.2.2.2.1
theorem dX7_washed_45 : decode cX7_washed 45 = .ok (.getfield 39, 3) := qd3_32.2.2.2.2.1
theorem dX7_washed_48 : decode cX7_washed 48 = .ok (.iload_n 1, 1) := qd3_32.2.2.2.2.2.1
theorem dX7_washed_49 : decode cX7_washed 49 = .ok (.aaload, 1) := qd3_32.2.2.2.2.2.2.1
theorem dX7_washed_50 : decode cX7_washed 50 = .ok (.bipush 6, 2) := qd3_32.2.2.2.2.2.2.2.1
theorem dX7_washed_52 : decode cX7_washed 52 = .ok (.iaload, 1) := qd3_32.2.2.2.2.2.2.2.2.1
theorem dX7_washed_53 : decode cX7_washed 53 = .ok (.if_icmp .eq 7, 3) := qd3_32.2.2.2.2.2.2.2.2.2.1
theorem dX7_washed_56 : decode cX7_washed 56 = .ok (.iconst 1, 1) := qd3_32.2.2.2.2.2.2.2.2.2.2.1
theorem dX7_washed_57 : decode cX7_washed 57 = .ok (.goto 4, 3) := qd3_32.2.2.2.2.2.2.2.2.2.2.2
theorem qd3_33 : (decode cX7_washed 60 = .ok (.iconst 0, 1)) ∧ (decode cX7_washed 61 = .ok (.ireturn, 1)) := by decide +kernel
theorem dX7_washed_60 : decode cX7_washed 60 = .ok (.iconst 0, 1) := qd3_33.1
theorem dX7_washed_61 : decode cX7_washed 61 = .ok (.ireturn, 1) := qd3_33.2
theorem qd3_34 : (decode cX7_feed 0 = .ok (.iload_n 2, 1)) ∧ (decode cX7_feed 1 = .ok (.i2l, 1)) ∧ (decode cX7_feed 2 = .ok (.lconst 1, 1)) ∧ (decode cX7_feed 3 = .ok (.ldc2_w 90, 3)) ∧ (decode cX7_feed 6 = .ok (.invokestatic 78, 3)) ∧ (decode cX7_feed 9 = .ok (.ifCond .ne 10, 3)) ∧ (decode cX7_feed 12 = .ok (.aload_n 0, 1)) ∧ (decode cX7_feed 13 = .ok (.bipush (-2), 2)) ∧ (decode cX7_feed 15 = .ok (.invokevirtual 94, 3)) ∧ (decode cX7_feed 18 = .ok (.ireturn, 1)) ∧ (decode cX7_feed 19 = .ok (.iload_n 2, 1)) ∧ (decode cX7_feed 20 = .ok (.sipush 250, 3)) := by decide +kernel
theorem dX7_feed_0 : decode cX7_feed 0 = .ok (.iload_n 2, 1) := qd3_34.1
theorem dX7_feed_1 : decode cX7_feed 1 = .ok (.i2l, 1) := qd3_34.2.1
theorem dX7_feed_2 : decode cX7_feed 2 = .ok (.lconst 1, 1) := qd3_34.2.2.1
theorem dX7_feed_3 : decode cX7_feed 3 = .ok (.ldc2_w 90, 3) := qd3_34.2.2.2.1
theorem dX7_feed_6 : decode cX7_feed 6 = .ok (.invokestatic 78, 3) := qd3_34.2.2.2.2.1
theorem dX7_feed_9 : decode cX7_feed 9 = .ok (.ifCond .ne 10, 3) := qd3_34.2.2.2.2.2.1
theorem dX7_feed_12 : decode cX7_feed 12 = .ok (.aload_n 0, 1) := qd3_34.2.2.2.2.2.2.1
theorem dX7_feed_13 : decode cX7_feed 13 = .ok (.bipush (-2), 2) := qd3_34.2.2.2.2.2.2.2.1
theorem dX7_feed_15 : decode cX7_feed 15 = .ok (.invokevirtual 94, 3) := qd3_34.2.2.2.2.2.2.2.2.1
theorem dX7_feed_18 : decode cX7_feed 18 = .ok (.ireturn, 1) := qd3_34.2.2.2.2.2.2.2.2.2.1
theorem dX7_feed_19 : decode cX7_feed 19 = .ok (.iload_n 2, 1) := qd3_34.2.2.2.2.2.2.2.2.2.2.1
theorem dX7_feed_20 : decode cX7_feed 20 = .ok (.sipush 250, 3) := qd3_34.2.2.2.2.2.2.2.2.2.2.2
theorem qd3_35 : (decode cX7_feed 23 = .ok (.aload_n 0, 1)) ∧ (decode cX7_feed 24 = .ok (.getfield 146, 3)) ∧ (decode cX7_feed 27 = .ok (.isub, 1)) ∧ (decode cX7_feed 28 = .ok (.if_icmp .le 10, 3)) ∧ (decode cX7_feed 31 = .ok (.aload_n 0, 1)) ∧ (decode cX7_feed 32 = .ok (.bipush (-6), 2)) ∧ (decode cX7_feed 34 = .ok (.invokevirtual 94, 3)) ∧ (decode cX7_feed 37 = .ok (.ireturn, 1)) ∧ (decode cX7_feed 38 = .ok (.iload_n 2, 1)) ∧ (decode cX7_feed 39 = .ok (.iconst 1, 1)) ∧ (decode cX7_feed 40 = .ok (.isub, 1)) ∧ (decode cX7_feed 41 = .ok (.istore_n 3, 1)) := by decide +kernel
theorem dX7_feed_23 : decode cX7_feed 23 = .ok (.aload_n 0, 1) := qd3_35.1
theorem dX7_feed_24 : decode cX7_feed 24 = .ok (.getfield 146, 3) := qd3_35.2.1
theorem dX7_feed_27 : decode cX7_feed 27 = .ok (.isub, 1) := qd3_35.2.2.1
theorem dX7_feed_28 : decode cX7_feed 28 = .ok (.if_icmp .le 10, 3) := qd3_35.2.2.2.1
theorem dX7_feed_31 : decode cX7_feed 31 = .ok (.aload_n 0, 1) := qd3_35.2.2.2.2.1
theorem dX7_feed_32 : decode cX7_feed 32 = .ok (.bipush (-6), 2) := qd3_35.2.2.2.2.2.1
theorem dX7_feed_34 : decode cX7_feed 34 = .ok (.invokevirtual 94, 3) := qd3_35.2.2.2.2.2.2.1
theorem dX7_feed_37 : decode cX7_feed 37 = .ok (.ireturn, 1) := qd3_35.2.2.2.2.2.2.2.1
theorem dX7_feed_38 : decode cX7_feed 38 = .ok (.iload_n 2, 1) := qd3_35.2.2.2.2.2.2.2.2.1
theorem dX7_feed_39 : decode cX7_feed 39 = .ok (.iconst 1, 1) := qd3_35.2.2.2.2.2.2.2.2.2.1
theorem dX7_feed_40 : decode cX7_feed 40 = .ok (.isub, 1) := qd3_35.2.2.2.2.2.2.2.2.2.2.1
theorem dX7_feed_41 : decode cX7_feed 41 = .ok (.istore_n 3, 1) := qd3_35.2.2.2.2.2.2.2.2.2.2.2
theorem qd3_36 : (decode cX7_feed 42 = .ok (.iload_n 3, 1)) ∧ (decode cX7_feed 43 = .ok (.ifCond .lt 35, 3)) ∧ (decode cX7_feed 46 = .ok (.aload_n 0, 1)) ∧ (decode cX7_feed 47 = .ok (.getfield 31, 3)) ∧ (decode cX7_feed 50 = .ok (.aload_n 0, 1)) ∧ (decode cX7_feed 51 = .ok (.dup, 1)) ∧ (decode cX7_feed 52 = .ok (.getfield 146, 3)) ∧ (decode cX7_feed 55 = .ok (.dup_x1, 1)) ∧ (decode cX7_feed 56 = .ok (.iconst 1, 1)) ∧ (decode cX7_feed 57 = .ok (.iadd, 1)) ∧ (decode cX7_feed 58 = .ok (.putfield 146, 3)) ∧ (decode cX7_feed 61 = .ok (.iload_n 1, 1)) := by decide +kernel
theorem dX7_feed_42 : decode cX7_feed 42 = .ok (.iload_n 3, 1) := qd3_36.1
theorem dX7_feed_43 : decode cX7_feed 43 = .ok (.ifCond .lt 35, 3) := qd3_36.2.1
theorem dX7_feed_46 : decode cX7_feed 46 = .ok (.aload_n 0, 1) := qd3_36.2.2.1
theorem dX7_feed_47 : decode cX7_feed 47 = .ok (.getfield 31, 3) := qd3_36.2.2.2.1
theorem dX7_feed_50 : decode cX7_feed 50 = .ok (.aload_n 0, 1) := qd3_36.2.2.2.2.1
theorem dX7_feed_51 : decode cX7_feed 51 = .ok (.dup, 1) := qd3_36.2.2.2.2.2.1
theorem dX7_feed_52 : decode cX7_feed 52 = .ok (.getfield 146, 3) := qd3_36.2.2.2.2.2.2.1
theorem dX7_feed_55 : decode cX7_feed 55 = .ok (.dup_x1, 1) := qd3_36.2.2.2.2.2.2.2.1
theorem dX7_feed_56 : decode cX7_feed 56 = .ok (.iconst 1, 1) := qd3_36.2.2.2.2.2.2.2.2.1
theorem dX7_feed_57 : decode cX7_feed 57 = .ok (.iadd, 1) := qd3_36.2.2.2.2.2.2.2.2.2.1
theorem dX7_feed_58 : decode cX7_feed 58 = .ok (.putfield 146, 3) := qd3_36.2.2.2.2.2.2.2.2.2.2.1
theorem dX7_feed_61 : decode cX7_feed 61 = .ok (.iload_n 1, 1) := qd3_36.2.2.2.2.2.2.2.2.2.2.2
theorem qd3_37 : (decode cX7_feed 62 = .ok (.bipush 8, 2)) ∧ (decode cX7_feed 64 = .ok (.iload_n 3, 1)) ∧ (decode cX7_feed 65 = .ok (.imul, 1)) ∧ (decode cX7_feed 66 = .ok (.ishr, 1)) ∧ (decode cX7_feed 67 = .ok (.sipush 255, 3)) ∧ (decode cX7_feed 70 = .ok (.iand, 1)) ∧ (decode cX7_feed 71 = .ok (.iastore, 1)) ∧ (decode cX7_feed 72 = .ok (.iinc 3 (-1), 3)) ∧ (decode cX7_feed 75 = .ok (.goto (-33), 3)) ∧ (decode cX7_feed 78 = .ok (.aload_n 0, 1)) ∧ (decode cX7_feed 79 = .ok (.getfield 146, 3)) ∧ (decode cX7_feed 82 = .ok (.ireturn, 1)) := by decide +kernel
theorem dX7_feed_62 : decode cX7_feed 62 = .ok (.bipush 8, 2) := qd3_37.1
theorem dX7_feed_64 : decode cX7_feed 64 = .ok (.iload_n 3, 1) := qd3_37.2.1
theorem dX7_feed_65 : decode cX7_feed 65 = .ok (.imul, 1) := qd3_37.2.2.1
theorem dX7_feed_66 : decode cX7_feed 66 = .ok (.ishr, 1) := qd3_37.2.2.2.1
theorem dX7_feed_67 : decode cX7_feed 67 = .ok (.sipush 255, 3) := qd3_37.2.2.2.2.1
theorem dX7_feed_70 : decode cX7_feed 70 = .ok (.iand, 1) := qd3_37.2.2.2.2.2.1
theorem dX7_feed_71 : decode cX7_feed 71 = .ok (.iastore, 1) := qd3_37.2.2.2.2.2.2.1
theorem dX7_feed_72 : decode cX7_feed 72 = .ok (.iinc 3 (-1), 3) := qd3_37.2.2.2.2.2.2.2.1
theorem dX7_feed_75 : decode cX7_feed 75 = .ok (.goto (-33), 3) := qd3_37.2.2.2.2.2.2.2.2.1
theorem dX7_feed_78 : decode cX7_feed 78 = .ok (.aload_n 0, 1) := qd3_37.2.2.2.2.2.2.2.2.2.1
theorem dX7_feed_79 : decode cX7_feed 79 = .ok (.getfield 146, 3) := qd3_37.2.2.2.2.2.2.2.2.2.2.1
theorem dX7_feed_82 : decode cX7_feed 82 = .ok (.ireturn, 1) := qd3_37.2.2.2.2.2.2.2.2.2.2.2
theorem qd3_38 : (decode cX7_wipe 0 = .ok (.aload_n 0, 1)) ∧ (decode cX7_wipe 1 = .ok (.getfield 146, 3)) ∧ (decode cX7_wipe 4 = .ok (.istore_n 1, 1)) ∧ (decode cX7_wipe 5 = .ok (.aload_n 0, 1)) ∧ (decode cX7_wipe 6 = .ok (.iconst 0, 1)) ∧ (decode cX7_wipe 7 = .ok (.putfield 146, 3)) ∧ (decode cX7_wipe 10 = .ok (.iload_n 1, 1)) ∧ (decode cX7_wipe 11 = .ok (.ireturn, 1)) := by decide +kernel
theorem dX7_wipe_0 : decode cX7_wipe 0 = .ok (.aload_n 0, 1) := qd3_38.1
theorem dX7_wipe_1 : decode cX7_wipe 1 = .ok (.getfield 146, 3) := qd3_38.2.1
theorem dX7_wipe_4 : decode cX7_wipe 4 = .ok (.istore_n 1, 1) := qd3_38.2.2.1
theorem dX7_wipe_5 : decode cX7_wipe 5 = .ok (.aload_n 0, 1) := qd3_38.2.2.2.1
theorem dX7_wipe_6 : decode cX7_wipe 6 = .ok (.iconst 0, 1) := qd3_38.2.2.2.2.1
theorem dX7_wipe_7 : decode cX7_wipe 7 = .ok (.putfield 146, 3) := qd3_38.2.2.2.2.2.1
theorem dX7_wipe_10 : decode cX7_wipe 10 = .ok (.iload_n 1, 1) := qd3_38.2.2.2.2.2.2.1
theorem dX7_wipe_11 : decode cX7_wipe 11 = .ok (.ireturn, 1) := qd3_38.2.2.2.2.2.2.2
theorem qd3_39 : (decode cX7_isLetter 0 = .ok (.iload_n 0, 1)) ∧ (decode cX7_isLetter 1 = .ok (.bipush 97, 2)) ∧ (decode cX7_isLetter 3 = .ok (.if_icmp .lt 13, 3)) ∧ (decode cX7_isLetter 6 = .ok (.iload_n 0, 1)) ∧ (decode cX7_isLetter 7 = .ok (.bipush 122, 2)) ∧ (decode cX7_isLetter 9 = .ok (.if_icmp .gt 7, 3)) ∧ (decode cX7_isLetter 12 = .ok (.iconst 1, 1)) ∧ (decode cX7_isLetter 13 = .ok (.goto 4, 3)) ∧ (decode cX7_isLetter 16 = .ok (.iconst 0, 1)) ∧ (decode cX7_isLetter 17 = .ok (.ireturn, 1)) := by decide +kernel
theorem dX7_isLetter_0 : decode cX7_isLetter 0 = .ok (.iload_n 0, 1) := qd3_39.1
theorem dX7_isLetter_1 : decode cX7_isLetter 1 = .ok (.bipush 97, 2) := qd3_39.2.1
theorem dX7_isLetter_3 : decode cX7_isLetter 3 = .ok (.if_icmp .lt 13, 3) := qd3_39.2.2.1
theorem dX7_isLetter_6 : decode cX7_isLetter 6 = .ok (.iload_n 0, 1) := qd3_39.2.2.2.1
theorem dX7_isLetter_7 : decode cX7_isLetter 7 = .ok (.bipush 122, 2) := qd3_39.2.2.2.2.1
theorem dX7_isLetter_9 : decode cX7_isLetter 9 = .ok (.if_icmp .gt 7, 3) := qd3_39.2.2.2.2.2.1
theorem dX7_isLetter_12 : decode cX7_isLetter 12 = .ok (.iconst 1, 1) := qd3_39.2.2.2.2.2.2.1
theorem dX7_isLetter_13 : decode cX7_isLetter 13 = .ok (.goto 4, 3) := qd3_39.2.2.2.2.2.2.2.1
theorem dX7_isLetter_16 : decode cX7_isLetter 16 = .ok (.iconst 0, 1) := qd3_39.2.2.2.2.2.2.2.2.1
theorem dX7_isLetter_17 : decode cX7_isLetter 17 = .ok (.ireturn, 1) := qd3_39.2.2.2.2.2.2.2.2.2
theorem qd3_40 : (decode cX7_isDigit 0 = .ok (.iload_n 0, 1)) ∧ (decode cX7_isDigit 1 = .ok (.bipush 48, 2)) ∧ (decode cX7_isDigit 3 = .ok (.if_icmp .lt 13, 3)) ∧ (decode cX7_isDigit 6 = .ok (.iload_n 0, 1)) ∧ (decode cX7_isDigit 7 = .ok (.bipush 57, 2)) ∧ (decode cX7_isDigit 9 = .ok (.if_icmp .gt 7, 3)) ∧ (decode cX7_isDigit 12 = .ok (.iconst 1, 1)) ∧ (decode cX7_isDigit 13 = .ok (.goto 4, 3)) ∧ (decode cX7_isDigit 16 = .ok (.iconst 0, 1)) ∧ (decode cX7_isDigit 17 = .ok (.ireturn, 1)) := by decide +kernel
theorem dX7_isDigit_0 : decode cX7_isDigit 0 = .ok (.iload_n 0, 1) := qd3_40.1
theorem dX7_isDigit_1 : decode cX7_isDigit 1 = .ok (.bipush 48, 2) := qd3_40.2.1
theorem dX7_isDigit_3 : decode cX7_isDigit 3 = .ok (.if_icmp .lt 13, 3) := qd3_40.2.2.1
theorem dX7_isDigit_6 : decode cX7_isDigit 6 = .ok (.iload_n 0, 1) := qd3_40.2.2.2.1
theorem dX7_isDigit_7 : decode cX7_isDigit 7 = .ok (.bipush 57, 2) := qd3_40.2.2.2.2.1
theorem dX7_isDigit_9 : decode cX7_isDigit 9 = .ok (.if_icmp .gt 7, 3) := qd3_40.2.2.2.2.2.1
theorem dX7_isDigit_12 : decode cX7_isDigit 12 = .ok (.iconst 1, 1) := qd3_40.2.2.2.2.2.2.1
theorem dX7_isDigit_13 : decode cX7_isDigit 13 = .ok (.goto 4, 3) := qd3_40.2.2.2.2.2.2.2.1
theorem dX7_isDigit_16 : decode cX7_isDigit 16 = .ok (.iconst 0, 1) := qd3_40.2.2.2.2.2.2.2.2.1
theorem dX7_isDigit_17 : decode cX7_isDigit 17 = .ok (.ireturn, 1) := qd3_40.2.2.2.2.2.2.2.2.2
theorem qd3_41 : (decode cX7_look 0 = .ok (.aload_n 0, 1)) ∧ (decode cX7_look 1 = .ok (.getfield 149, 3)) ∧ (decode cX7_look 4 = .ok (.aload_n 0, 1)) ∧ (decode cX7_look 5 = .ok (.getfield 146, 3)) ∧ (decode cX7_look 8 = .ok (.if_icmp .ge 30, 3)) ∧ (decode cX7_look 11 = .ok (.aload_n 0, 1)) ∧ (decode cX7_look 12 = .ok (.getfield 31, 3)) ∧ (decode cX7_look 15 = .ok (.aload_n 0, 1)) ∧ (decode cX7_look 16 = .ok (.getfield 149, 3)) ∧ (decode cX7_look 19 = .ok (.iaload, 1)) ∧ (decode cX7_look 20 = .ok (.bipush 32, 2)) ∧ (decode cX7_look 22 = .ok (.if_icmp .ne 16, 3)) := by decide +kernel
theorem dX7_look_0 : decode cX7_look 0 = .ok (.aload_n 0, 1) := qd3_41.1
theorem dX7_look_1 : decode cX7_look 1 = .ok (.getfield 149, 3) := qd3_41.2.1
theorem dX7_look_4 : decode cX7_look 4 = .ok (.aload_n 0, 1) := qd3_41.2.2.1
theorem dX7_look_5 : decode cX7_look 5 = .ok (.getfield 146, 3) := qd3_41.2.2.2.1
theorem dX7_look_8 : decode cX7_look 8 = .ok (.if_icmp .ge 30, 3) := qd3_41.2.2.2.2.1
theorem dX7_look_11 : decode cX7_look 11 = .ok (.aload_n 0, 1) := qd3_41.2.2.2.2.2.1
theorem dX7_look_12 : decode cX7_look 12 = .ok (.getfield 31, 3) := qd3_41.2.2.2.2.2.2.1
theorem dX7_look_15 : decode cX7_look 15 = .ok (.aload_n 0, 1) := qd3_41.2.2.2.2.2.2.2.1
theorem dX7_look_16 : decode cX7_look 16 = .ok (.getfield 149, 3) := qd3_41.2.2.2.2.2.2.2.2.1
theorem dX7_look_19 : decode cX7_look 19 = .ok (.iaload, 1) := qd3_41.2.2.2.2.2.2.2.2.2.1
theorem dX7_look_20 : decode cX7_look 20 = .ok (.bipush 32, 2) := qd3_41.2.2.2.2.2.2.2.2.2.2.1
theorem dX7_look_22 : decode cX7_look 22 = .ok (.if_icmp .ne 16, 3) := qd3_41.2.2.2.2.2.2.2.2.2.2.2
theorem qd3_42 : (decode cX7_look 25 = .ok (.aload_n 0, 1)) ∧ (decode cX7_look 26 = .ok (.dup, 1)) ∧ (decode cX7_look 27 = .ok (.getfield 149, 3)) ∧ (decode cX7_look 30 = .ok (.iconst 1, 1)) ∧ (decode cX7_look 31 = .ok (.iadd, 1)) ∧ (decode cX7_look 32 = .ok (.putfield 149, 3)) ∧ (decode cX7_look 35 = .ok (.goto (-35), 3)) ∧ (decode cX7_look 38 = .ok (.aload_n 0, 1)) ∧ (decode cX7_look 39 = .ok (.aload_n 0, 1)) ∧ (decode cX7_look 40 = .ok (.getfield 149, 3)) ∧ (decode cX7_look 43 = .ok (.putfield 152, 3)) ∧ (decode cX7_look 46 = .ok (.aload_n 0, 1)) := by decide +kernel
theorem dX7_look_25 : decode cX7_look 25 = .ok (.aload_n 0, 1) := qd3_42.1
theorem dX7_look_26 : decode cX7_look 26 = .ok (.dup, 1) := qd3_42.2.1
theorem dX7_look_27 : decode cX7_look 27 = .ok (.getfield 149, 3) := qd3_42.2.2.1
theorem dX7_look_30 : decode cX7_look 30 = .ok (.iconst 1, 1) := qd3_42.2.2.2.1
theorem dX7_look_31 : decode cX7_look 31 = .ok (.iadd, 1) := qd3_42.2.2.2.2.1
theorem dX7_look_32 : decode cX7_look 32 = .ok (.putfield 149, 3) := qd3_42.2.2.2.2.2.1
theorem dX7_look_35 : decode cX7_look 35 = .ok (.goto (-35), 3) := qd3_42.2.2.2.2.2.2.1
theorem dX7_look_38 : decode cX7_look 38 = .ok (.aload_n 0, 1) := qd3_42.2.2.2.2.2.2.2.1
theorem dX7_look_39 : decode cX7_look 39 = .ok (.aload_n 0, 1) := qd3_42.2.2.2.2.2.2.2.2.1
theorem dX7_look_40 : decode cX7_look 40 = .ok (.getfield 149, 3) := qd3_42.2.2.2.2.2.2.2.2.2.1
theorem dX7_look_43 : decode cX7_look 43 = .ok (.putfield 152, 3) := qd3_42.2.2.2.2.2.2.2.2.2.2.1
theorem dX7_look_46 : decode cX7_look 46 = .ok (.aload_n 0, 1) := qd3_42.2.2.2.2.2.2.2.2.2.2.2
theorem qd3_43 : (decode cX7_look 47 = .ok (.lconst 0, 1)) ∧ (decode cX7_look 48 = .ok (.putfield 155, 3)) ∧ (decode cX7_look 51 = .ok (.aload_n 0, 1)) ∧ (decode cX7_look 52 = .ok (.getfield 149, 3)) ∧ (decode cX7_look 55 = .ok (.aload_n 0, 1)) ∧ (decode cX7_look 56 = .ok (.getfield 146, 3)) ∧ (decode cX7_look 59 = .ok (.if_icmp .ne 11, 3)) ∧ (decode cX7_look 62 = .ok (.aload_n 0, 1)) ∧ (decode cX7_look 63 = .ok (.iconst 0, 1)) ∧ (decode cX7_look 64 = .ok (.putfield 159, 3)) ∧ (decode cX7_look 67 = .ok (.goto 200, 3)) ∧ (decode cX7_look 70 = .ok (.aload_n 0, 1)) := by decide +kernel
theorem dX7_look_47 : decode cX7_look 47 = .ok (.lconst 0, 1) := qd3_43.1
theorem dX7_look_48 : decode cX7_look 48 = .ok (.putfield 155, 3) := qd3_43.2.1
theorem dX7_look_51 : decode cX7_look 51 = .ok (.aload_n 0, 1) := qd3_43.2.2.1
theorem dX7_look_52 : decode cX7_look 52 = .ok (.getfield 149, 3) := qd3_43.2.2.2.1
theorem dX7_look_55 : decode cX7_look 55 = .ok (.aload_n 0, 1) := qd3_43.2.2.2.2.1
theorem dX7_look_56 : decode cX7_look 56 = .ok (.getfield 146, 3) := qd3_43.2.2.2.2.2.1
theorem dX7_look_59 : decode cX7_look 59 = .ok (.if_icmp .ne 11, 3) := qd3_43.2.2.2.2.2.2.1
theorem dX7_look_62 : decode cX7_look 62 = .ok (.aload_n 0, 1) := qd3_43.2.2.2.2.2.2.2.1
theorem dX7_look_63 : decode cX7_look 63 = .ok (.iconst 0, 1) := qd3_43.2.2.2.2.2.2.2.2.1
theorem dX7_look_64 : decode cX7_look 64 = .ok (.putfield 159, 3) := qd3_43.2.2.2.2.2.2.2.2.2.1
theorem dX7_look_67 : decode cX7_look 67 = .ok (.goto 200, 3) := qd3_43.2.2.2.2.2.2.2.2.2.2.1
theorem dX7_look_70 : decode cX7_look 70 = .ok (.aload_n 0, 1) := qd3_43.2.2.2.2.2.2.2.2.2.2.2
theorem qd3_44 : (decode cX7_look 71 = .ok (.getfield 31, 3)) ∧ (decode cX7_look 74 = .ok (.aload_n 0, 1)) ∧ (decode cX7_look 75 = .ok (.getfield 149, 3)) ∧ (decode cX7_look 78 = .ok (.iaload, 1)) ∧ (decode cX7_look 79 = .ok (.invokestatic 162, 3)) ∧ (decode cX7_look 82 = .ok (.ifCond .eq 47, 3)) ∧ (decode cX7_look 85 = .ok (.aload_n 0, 1)) ∧ (decode cX7_look 86 = .ok (.iconst 1, 1)) ∧ (decode cX7_look 87 = .ok (.putfield 159, 3)) ∧ (decode cX7_look 90 = .ok (.aload_n 0, 1)) ∧ (decode cX7_look 91 = .ok (.getfield 149, 3)) ∧ (decode cX7_look 94 = .ok (.aload_n 0, 1)) := by decide +kernel
theorem dX7_look_71 : decode cX7_look 71 = .ok (.getfield 31, 3) := qd3_44.1
theorem dX7_look_74 : decode cX7_look 74 = .ok (.aload_n 0, 1) := qd3_44.2.1
theorem dX7_look_75 : decode cX7_look 75 = .ok (.getfield 149, 3) := qd3_44.2.2.1
theorem dX7_look_78 : decode cX7_look 78 = .ok (.iaload, 1) := qd3_44.2.2.2.1
theorem dX7_look_79 : decode cX7_look 79 = .ok (.invokestatic 162, 3) := qd3_44.2.2.2.2.1
theorem dX7_look_82 : decode cX7_look 82 = .ok (.ifCond .eq 47, 3) := qd3_44.2.2.2.2.2.1
theorem dX7_look_85 : decode cX7_look 85 = .ok (.aload_n 0, 1) := qd3_44.2.2.2.2.2.2.1
theorem dX7_look_86 : decode cX7_look 86 = .ok (.iconst 1, 1) := qd3_44.2.2.2.2.2.2.2.1
theorem dX7_look_87 : decode cX7_look 87 = .ok (.putfield 159, 3) := qd3_44.2.2.2.2.2.2.2.2.1
theorem dX7_look_90 : decode cX7_look 90 = .ok (.aload_n 0, 1) := qd3_44.2.2.2.2.2.2.2.2.2.1
theorem dX7_look_91 : decode cX7_look 91 = .ok (.getfield 149, 3) := qd3_44.2.2.2.2.2.2.2.2.2.2.1
theorem dX7_look_94 : decode cX7_look 94 = .ok (.aload_n 0, 1) := qd3_44.2.2.2.2.2.2.2.2.2.2.2
theorem qd3_45 : (decode cX7_look 95 = .ok (.getfield 146, 3)) ∧ (decode cX7_look 98 = .ok (.if_icmp .ge 169, 3)) ∧ (decode cX7_look 101 = .ok (.aload_n 0, 1)) ∧ (decode cX7_look 102 = .ok (.getfield 31, 3)) ∧ (decode cX7_look 105 = .ok (.aload_n 0, 1)) ∧ (decode cX7_look 106 = .ok (.getfield 149, 3)) ∧ (decode cX7_look 109 = .ok (.iaload, 1)) ∧ (decode cX7_look 110 = .ok (.invokestatic 162, 3)) ∧ (decode cX7_look 113 = .ok (.ifCond .eq 154, 3)) ∧ (decode cX7_look 116 = .ok (.aload_n 0, 1)) ∧ (decode cX7_look 117 = .ok (.dup, 1)) ∧ (decode cX7_look 118 = .ok (.getfield 149, 3)) := by decide +kernel
theorem dX7_look_95 : decode cX7_look 95 = .ok (.getfield 146, 3) := qd3_45.1
theorem dX7_look_98 : decode cX7_look 98 = .ok (.if_icmp .ge 169, 3) := qd3_45.2.1
theorem dX7_look_101 : decode cX7_look 101 = .ok (.aload_n 0, 1) := qd3_45.2.2.1
theorem dX7_look_102 : decode cX7_look 102 = .ok (.getfield 31, 3) := qd3_45.2.2.2.1
theorem dX7_look_105 : decode cX7_look 105 = .ok (.aload_n 0, 1) := qd3_45.2.2.2.2.1
theorem dX7_look_106 : decode cX7_look 106 = .ok (.getfield 149, 3) := qd3_45.2.2.2.2.2.1
theorem dX7_look_109 : decode cX7_look 109 = .ok (.iaload, 1) := qd3_45.2.2.2.2.2.2.1
theorem dX7_look_110 : decode cX7_look 110 = .ok (.invokestatic 162, 3) := qd3_45.2.2.2.2.2.2.2.1
theorem dX7_look_113 : decode cX7_look 113 = .ok (.ifCond .eq 154, 3) := qd3_45.2.2.2.2.2.2.2.2.1
theorem dX7_look_116 : decode cX7_look 116 = .ok (.aload_n 0, 1) := qd3_45.2.2.2.2.2.2.2.2.2.1
theorem dX7_look_117 : decode cX7_look 117 = .ok (.dup, 1) := qd3_45.2.2.2.2.2.2.2.2.2.2.1
theorem dX7_look_118 : decode cX7_look 118 = .ok (.getfield 149, 3) := qd3_45.2.2.2.2.2.2.2.2.2.2.2
theorem qd3_46 : (decode cX7_look 121 = .ok (.iconst 1, 1)) ∧ (decode cX7_look 122 = .ok (.iadd, 1)) ∧ (decode cX7_look 123 = .ok (.putfield 149, 3)) ∧ (decode cX7_look 126 = .ok (.goto (-36), 3)) ∧ (decode cX7_look 129 = .ok (.aload_n 0, 1)) ∧ (decode cX7_look 130 = .ok (.getfield 31, 3)) ∧ (decode cX7_look 133 = .ok (.aload_n 0, 1)) ∧ (decode cX7_look 134 = .ok (.getfield 149, 3)) ∧ (decode cX7_look 137 = .ok (.iaload, 1)) ∧ (decode cX7_look 138 = .ok (.invokestatic 165, 3)) ∧ (decode cX7_look 141 = .ok (.ifCond .eq 93, 3)) ∧ (decode cX7_look 144 = .ok (.aload_n 0, 1)) := by decide +kernel
theorem dX7_look_121 : decode cX7_look 121 = .ok (.iconst 1, 1) := qd3_46.1
theorem dX7_look_122 : decode cX7_look 122 = .ok (.iadd, 1) := qd3_46.2.1
theorem dX7_look_123 : decode cX7_look 123 = .ok (.putfield 149, 3) := qd3_46.2.2.1
theorem dX7_look_126 : decode cX7_look 126 = .ok (.goto (-36), 3) := qd3_46.2.2.2.1
theorem dX7_look_129 : decode cX7_look 129 = .ok (.aload_n 0, 1) := qd3_46.2.2.2.2.1
theorem dX7_look_130 : decode cX7_look 130 = .ok (.getfield 31, 3) := qd3_46.2.2.2.2.2.1
theorem dX7_look_133 : decode cX7_look 133 = .ok (.aload_n 0, 1) := qd3_46.2.2.2.2.2.2.1
theorem dX7_look_134 : decode cX7_look 134 = .ok (.getfield 149, 3) := qd3_46.2.2.2.2.2.2.2.1
theorem dX7_look_137 : decode cX7_look 137 = .ok (.iaload, 1) := qd3_46.2.2.2.2.2.2.2.2.1
theorem dX7_look_138 : decode cX7_look 138 = .ok (.invokestatic 165, 3) := qd3_46.2.2.2.2.2.2.2.2.2.1
theorem dX7_look_141 : decode cX7_look 141 = .ok (.ifCond .eq 93, 3) := qd3_46.2.2.2.2.2.2.2.2.2.2.1
theorem dX7_look_144 : decode cX7_look 144 = .ok (.aload_n 0, 1) := qd3_46.2.2.2.2.2.2.2.2.2.2.2
theorem qd3_47 : (decode cX7_look 145 = .ok (.iconst 2, 1)) ∧ (decode cX7_look 146 = .ok (.putfield 159, 3)) ∧ (decode cX7_look 149 = .ok (.aload_n 0, 1)) ∧ (decode cX7_look 150 = .ok (.getfield 149, 3)) ∧ (decode cX7_look 153 = .ok (.aload_n 0, 1)) ∧ (decode cX7_look 154 = .ok (.getfield 146, 3)) ∧ (decode cX7_look 157 = .ok (.if_icmp .ge 110, 3)) ∧ (decode cX7_look 160 = .ok (.aload_n 0, 1)) ∧ (decode cX7_look 161 = .ok (.getfield 31, 3)) ∧ (decode cX7_look 164 = .ok (.aload_n 0, 1)) ∧ (decode cX7_look 165 = .ok (.getfield 149, 3)) ∧ (decode cX7_look 168 = .ok (.iaload, 1)) := by decide +kernel
theorem dX7_look_145 : decode cX7_look 145 = .ok (.iconst 2, 1) := qd3_47.1
theorem dX7_look_146 : decode cX7_look 146 = .ok (.putfield 159, 3) := qd3_47.2.1
theorem dX7_look_149 : decode cX7_look 149 = .ok (.aload_n 0, 1) := qd3_47.2.2.1
theorem dX7_look_150 : decode cX7_look 150 = .ok (.getfield 149, 3) := qd3_47.2.2.2.1
theorem dX7_look_153 : decode cX7_look 153 = .ok (.aload_n 0, 1) := qd3_47.2.2.2.2.1
theorem dX7_look_154 : decode cX7_look 154 = .ok (.getfield 146, 3) := qd3_47.2.2.2.2.2.1
theorem dX7_look_157 : decode cX7_look 157 = .ok (.if_icmp .ge 110, 3) := qd3_47.2.2.2.2.2.2.1
theorem dX7_look_160 : decode cX7_look 160 = .ok (.aload_n 0, 1) := qd3_47.2.2.2.2.2.2.2.1
theorem dX7_look_161 : decode cX7_look 161 = .ok (.getfield 31, 3) := qd3_47.2.2.2.2.2.2.2.2.1
theorem dX7_look_164 : decode cX7_look 164 = .ok (.aload_n 0, 1) := qd3_47.2.2.2.2.2.2.2.2.2.1
theorem dX7_look_165 : decode cX7_look 165 = .ok (.getfield 149, 3) := qd3_47.2.2.2.2.2.2.2.2.2.2.1
theorem dX7_look_168 : decode cX7_look 168 = .ok (.iaload, 1) := qd3_47.2.2.2.2.2.2.2.2.2.2.2
theorem qd3_48 : (decode cX7_look 169 = .ok (.invokestatic 165, 3)) ∧ (decode cX7_look 172 = .ok (.ifCond .eq 95, 3)) ∧ (decode cX7_look 175 = .ok (.aload_n 0, 1)) ∧ (decode cX7_look 176 = .ok (.aload_n 0, 1)) ∧ (decode cX7_look 177 = .ok (.getfield 149, 3)) ∧ (decode cX7_look 180 = .ok (.aload_n 0, 1)) ∧ (decode cX7_look 181 = .ok (.getfield 152, 3)) ∧ (decode cX7_look 184 = .ok (.isub, 1)) ∧ (decode cX7_look 185 = .ok (.iconst 3, 1)) ∧ (decode cX7_look 186 = .ok (.if_icmp .ge 29, 3)) ∧ (decode cX7_look 189 = .ok (.aload_n 0, 1)) ∧ (decode cX7_look 190 = .ok (.getfield 155, 3)) := by decide +kernel
theorem dX7_look_169 : decode cX7_look 169 = .ok (.invokestatic 165, 3) := qd3_48.1
theorem dX7_look_172 : decode cX7_look 172 = .ok (.ifCond .eq 95, 3) := qd3_48.2.1
theorem dX7_look_175 : decode cX7_look 175 = .ok (.aload_n 0, 1) := qd3_48.2.2.1
theorem dX7_look_176 : decode cX7_look 176 = .ok (.aload_n 0, 1) := qd3_48.2.2.2.1
theorem dX7_look_177 : decode cX7_look 177 = .ok (.getfield 149, 3) := qd3_48.2.2.2.2.1
theorem dX7_look_180 : decode cX7_look 180 = .ok (.aload_n 0, 1) := qd3_48.2.2.2.2.2.1
theorem dX7_look_181 : decode cX7_look 181 = .ok (.getfield 152, 3) := qd3_48.2.2.2.2.2.2.1
theorem dX7_look_184 : decode cX7_look 184 = .ok (.isub, 1) := qd3_48.2.2.2.2.2.2.2.1
theorem dX7_look_185 : decode cX7_look 185 = .ok (.iconst 3, 1) := qd3_48.2.2.2.2.2.2.2.2.1
theorem dX7_look_186 : decode cX7_look 186 = .ok (.if_icmp .ge 29, 3) := qd3_48.2.2.2.2.2.2.2.2.2.1
theorem dX7_look_189 : decode cX7_look 189 = .ok (.aload_n 0, 1) := qd3_48.2.2.2.2.2.2.2.2.2.2.1
theorem dX7_look_190 : decode cX7_look 190 = .ok (.getfield 155, 3) := qd3_48.2.2.2.2.2.2.2.2.2.2.2
theorem qd3_49 : (decode cX7_look 193 = .ok (.ldc2_w 168, 3)) ∧ (decode cX7_look 196 = .ok (.lmul, 1)) ∧ (decode cX7_look 197 = .ok (.aload_n 0, 1)) ∧ (decode cX7_look 198 = .ok (.getfield 31, 3)) ∧ (decode cX7_look 201 = .ok (.aload_n 0, 1)) ∧ (decode cX7_look 202 = .ok (.getfield 149, 3)) ∧ (decode cX7_look 205 = .ok (.iaload, 1)) ∧ (decode cX7_look 206 = .ok (.i2l, 1)) ∧ (decode cX7_look 207 = .ok (.ladd, 1)) ∧ (decode cX7_look 208 = .ok (.ldc2_w 170, 3)) ∧ (decode cX7_look 211 = .ok (.lsub, 1)) ∧ (decode cX7_look 212 = .ok (.goto 6, 3)) := by decide +kernel
theorem dX7_look_193 : decode cX7_look 193 = .ok (.ldc2_w 168, 3) := qd3_49.1
theorem dX7_look_196 : decode cX7_look 196 = .ok (.lmul, 1) := qd3_49.2.1
theorem dX7_look_197 : decode cX7_look 197 = .ok (.aload_n 0, 1) := qd3_49.2.2.1
theorem dX7_look_198 : decode cX7_look 198 = .ok (.getfield 31, 3) := qd3_49.2.2.2.1
theorem dX7_look_201 : decode cX7_look 201 = .ok (.aload_n 0, 1) := qd3_49.2.2.2.2.1
theorem dX7_look_202 : decode cX7_look 202 = .ok (.getfield 149, 3) := qd3_49.2.2.2.2.2.1
theorem dX7_look_205 : decode cX7_look 205 = .ok (.iaload, 1) := qd3_49.2.2.2.2.2.2.1
theorem dX7_look_206 : decode cX7_look 206 = .ok (.i2l, 1) := qd3_49.2.2.2.2.2.2.2.1
theorem dX7_look_207 : decode cX7_look 207 = .ok (.ladd, 1) := qd3_49.2.2.2.2.2.2.2.2.1
theorem dX7_look_208 : decode cX7_look 208 = .ok (.ldc2_w 170, 3) := qd3_49.2.2.2.2.2.2.2.2.2.1
theorem dX7_look_211 : decode cX7_look 211 = .ok (.lsub, 1) := qd3_49.2.2.2.2.2.2.2.2.2.2.1
theorem dX7_look_212 : decode cX7_look 212 = .ok (.goto 6, 3) := qd3_49.2.2.2.2.2.2.2.2.2.2.2
theorem qd3_50 : (decode cX7_look 215 = .ok (.ldc2_w 172, 3)) ∧ (decode cX7_look 218 = .ok (.putfield 155, 3)) ∧ (decode cX7_look 221 = .ok (.aload_n 0, 1)) ∧ (decode cX7_look 222 = .ok (.dup, 1)) ∧ (decode cX7_look 223 = .ok (.getfield 149, 3)) ∧ (decode cX7_look 226 = .ok (.iconst 1, 1)) ∧ (decode cX7_look 227 = .ok (.iadd, 1)) ∧ (decode cX7_look 228 = .ok (.putfield 149, 3)) ∧ (decode cX7_look 231 = .ok (.goto (-82), 3)) ∧ (decode cX7_look 234 = .ok (.aload_n 0, 1)) ∧ (decode cX7_look 235 = .ok (.aload_n 0, 1)) ∧ (decode cX7_look 236 = .ok (.getfield 31, 3)) := by decide +kernel
theorem dX7_look_215 : decode cX7_look 215 = .ok (.ldc2_w 172, 3) := qd3_50.1
theorem dX7_look_218 : decode cX7_look 218 = .ok (.putfield 155, 3) := qd3_50.2.1
theorem dX7_look_221 : decode cX7_look 221 = .ok (.aload_n 0, 1) := qd3_50.2.2.1
theorem dX7_look_222 : decode cX7_look 222 = .ok (.dup, 1) := qd3_50.2.2.2.1
theorem dX7_look_223 : decode cX7_look 223 = .ok (.getfield 149, 3) := qd3_50.2.2.2.2.1
theorem dX7_look_226 : decode cX7_look 226 = .ok (.iconst 1, 1) := qd3_50.2.2.2.2.2.1
theorem dX7_look_227 : decode cX7_look 227 = .ok (.iadd, 1) := qd3_50.2.2.2.2.2.2.1
theorem dX7_look_228 : decode cX7_look 228 = .ok (.putfield 149, 3) := qd3_50.2.2.2.2.2.2.2.1
theorem dX7_look_231 : decode cX7_look 231 = .ok (.goto (-82), 3) := qd3_50.2.2.2.2.2.2.2.2.1
theorem dX7_look_234 : decode cX7_look 234 = .ok (.aload_n 0, 1) := qd3_50.2.2.2.2.2.2.2.2.2.1
theorem dX7_look_235 : decode cX7_look 235 = .ok (.aload_n 0, 1) := qd3_50.2.2.2.2.2.2.2.2.2.2.1
theorem dX7_look_236 : decode cX7_look 236 = .ok (.getfield 31, 3) := qd3_50.2.2.2.2.2.2.2.2.2.2.2
theorem qd3_51 : (decode cX7_look 239 = .ok (.aload_n 0, 1)) ∧ (decode cX7_look 240 = .ok (.getfield 149, 3)) ∧ (decode cX7_look 243 = .ok (.iaload, 1)) ∧ (decode cX7_look 244 = .ok (.bipush 59, 2)) ∧ (decode cX7_look 246 = .ok (.if_icmp .ne 7, 3)) ∧ (decode cX7_look 249 = .ok (.iconst 3, 1)) ∧ (decode cX7_look 250 = .ok (.goto 4, 3)) ∧ (decode cX7_look 253 = .ok (.iconst 4, 1)) ∧ (decode cX7_look 254 = .ok (.putfield 159, 3)) ∧ (decode cX7_look 257 = .ok (.aload_n 0, 1)) ∧ (decode cX7_look 258 = .ok (.dup, 1)) ∧ (decode cX7_look 259 = .ok (.getfield 149, 3)) := by decide +kernel
theorem dX7_look_239 : decode cX7_look 239 = .ok (.aload_n 0, 1) := qd3_51.1
theorem dX7_look_240 : decode cX7_look 240 = .ok (.getfield 149, 3) := qd3_51.2.1
theorem dX7_look_243 : decode cX7_look 243 = .ok (.iaload, 1) := qd3_51.2.2.1
theorem dX7_look_244 : decode cX7_look 244 = .ok (.bipush 59, 2) := qd3_51.2.2.2.1
theorem dX7_look_246 : decode cX7_look 246 = .ok (.if_icmp .ne 7, 3) := qd3_51.2.2.2.2.1
theorem dX7_look_249 : decode cX7_look 249 = .ok (.iconst 3, 1) := qd3_51.2.2.2.2.2.1
theorem dX7_look_250 : decode cX7_look 250 = .ok (.goto 4, 3) := qd3_51.2.2.2.2.2.2.1
theorem dX7_look_253 : decode cX7_look 253 = .ok (.iconst 4, 1) := qd3_51.2.2.2.2.2.2.2.1
theorem dX7_look_254 : decode cX7_look 254 = .ok (.putfield 159, 3) := qd3_51.2.2.2.2.2.2.2.2.1
theorem dX7_look_257 : decode cX7_look 257 = .ok (.aload_n 0, 1) := qd3_51.2.2.2.2.2.2.2.2.2.1
theorem dX7_look_258 : decode cX7_look 258 = .ok (.dup, 1) := qd3_51.2.2.2.2.2.2.2.2.2.2.1
theorem dX7_look_259 : decode cX7_look 259 = .ok (.getfield 149, 3) := qd3_51.2.2.2.2.2.2.2.2.2.2.2
theorem qd3_52 : (decode cX7_look 262 = .ok (.iconst 1, 1)) ∧ (decode cX7_look 263 = .ok (.iadd, 1)) ∧ (decode cX7_look 264 = .ok (.putfield 149, 3)) ∧ (decode cX7_look 267 = .ok (.return_, 1)) := by decide +kernel
theorem dX7_look_262 : decode cX7_look 262 = .ok (.iconst 1, 1) := qd3_52.1
theorem dX7_look_263 : decode cX7_look 263 = .ok (.iadd, 1) := qd3_52.2.1
theorem dX7_look_264 : decode cX7_look 264 = .ok (.putfield 149, 3) := qd3_52.2.2.1
theorem dX7_look_267 : decode cX7_look 267 = .ok (.return_, 1) := qd3_52.2.2.2
theorem qd3_53 : (decode cX7_wrong 0 = .ok (.aload_n 0, 1)) ∧ (decode cX7_wrong 1 = .ok (.aload_n 0, 1)) ∧ (decode cX7_wrong 2 = .ok (.getfield 152, 3)) ∧ (decode cX7_wrong 5 = .ok (.putfield 174, 3)) ∧ (decode cX7_wrong 8 = .ok (.iconst 0, 1)) ∧ (decode cX7_wrong 9 = .ok (.ireturn, 1)) := by decide +kernel
theorem dX7_wrong_0 : decode cX7_wrong 0 = .ok (.aload_n 0, 1) := qd3_53.1
theorem dX7_wrong_1 : decode cX7_wrong 1 = .ok (.aload_n 0, 1) := qd3_53.2.1
theorem dX7_wrong_2 : decode cX7_wrong 2 = .ok (.getfield 152, 3) := qd3_53.2.2.1
theorem dX7_wrong_5 : decode cX7_wrong 5 = .ok (.putfield 174, 3) := qd3_53.2.2.2.1
theorem dX7_wrong_8 : decode cX7_wrong 8 = .ok (.iconst 0, 1) := qd3_53.2.2.2.2.1
theorem dX7_wrong_9 : decode cX7_wrong 9 = .ok (.ireturn, 1) := qd3_53.2.2.2.2.2
theorem qd3_54 : (decode cX7_isWord 0 = .ok (.aload_n 0, 1)) ∧ (decode cX7_isWord 1 = .ok (.getfield 159, 3)) ∧ (decode cX7_isWord 4 = .ok (.iconst 1, 1)) ∧ (decode cX7_isWord 5 = .ok (.if_icmp .ne 19, 3)) ∧ (decode cX7_isWord 8 = .ok (.aload_n 0, 1)) ∧ (decode cX7_isWord 9 = .ok (.getfield 149, 3)) ∧ (decode cX7_isWord 12 = .ok (.aload_n 0, 1)) ∧ (decode cX7_isWord 13 = .ok (.getfield 152, 3)) ∧ (decode cX7_isWord 16 = .ok (.isub, 1)) ∧ (decode cX7_isWord 17 = .ok (.aload_n 1, 1)) ∧ (decode cX7_isWord 18 = .ok (.invokevirtual 177, 3)) ∧ (decode cX7_isWord 21 = .ok (.if_icmp .eq 5, 3)) := by decide +kernel
theorem dX7_isWord_0 : decode cX7_isWord 0 = .ok (.aload_n 0, 1) := qd3_54.1
theorem dX7_isWord_1 : decode cX7_isWord 1 = .ok (.getfield 159, 3) := qd3_54.2.1
theorem dX7_isWord_4 : decode cX7_isWord 4 = .ok (.iconst 1, 1) := qd3_54.2.2.1
theorem dX7_isWord_5 : decode cX7_isWord 5 = .ok (.if_icmp .ne 19, 3) := qd3_54.2.2.2.1
theorem dX7_isWord_8 : decode cX7_isWord 8 = .ok (.aload_n 0, 1) := qd3_54.2.2.2.2.1
theorem dX7_isWord_9 : decode cX7_isWord 9 = .ok (.getfield 149, 3) := qd3_54.2.2.2.2.2.1
theorem dX7_isWord_12 : decode cX7_isWord 12 = .ok (.aload_n 0, 1) := qd3_54.2.2.2.2.2.2.1
theorem dX7_isWord_13 : decode cX7_isWord 13 = .ok (.getfield 152, 3) := qd3_54.2.2.2.2.2.2.2.1
theorem dX7_isWord_16 : decode cX7_isWord 16 = .ok (.isub, 1) := qd3_54.2.2.2.2.2.2.2.2.1
theorem dX7_isWord_17 : decode cX7_isWord 17 = .ok (.aload_n 1, 1) := qd3_54.2.2.2.2.2.2.2.2.2.1
theorem dX7_isWord_18 : decode cX7_isWord 18 = .ok (.invokevirtual 177, 3) := qd3_54.2.2.2.2.2.2.2.2.2.2.1
theorem dX7_isWord_21 : decode cX7_isWord 21 = .ok (.if_icmp .eq 5, 3) := qd3_54.2.2.2.2.2.2.2.2.2.2.2
theorem qd3_55 : (decode cX7_isWord 24 = .ok (.iconst 0, 1)) ∧ (decode cX7_isWord 25 = .ok (.ireturn, 1)) ∧ (decode cX7_isWord 26 = .ok (.iconst 0, 1)) ∧ (decode cX7_isWord 27 = .ok (.istore_n 2, 1)) ∧ (decode cX7_isWord 28 = .ok (.iload_n 2, 1)) ∧ (decode cX7_isWord 29 = .ok (.aload_n 1, 1)) ∧ (decode cX7_isWord 30 = .ok (.invokevirtual 177, 3)) ∧ (decode cX7_isWord 33 = .ok (.if_icmp .ge 30, 3)) ∧ (decode cX7_isWord 36 = .ok (.aload_n 0, 1)) ∧ (decode cX7_isWord 37 = .ok (.getfield 31, 3)) ∧ (decode cX7_isWord 40 = .ok (.aload_n 0, 1)) ∧ (decode cX7_isWord 41 = .ok (.getfield 152, 3)) := by decide +kernel
theorem dX7_isWord_24 : decode cX7_isWord 24 = .ok (.iconst 0, 1) := qd3_55.1
theorem dX7_isWord_25 : decode cX7_isWord 25 = .ok (.ireturn, 1) := qd3_55.2.1
theorem dX7_isWord_26 : decode cX7_isWord 26 = .ok (.iconst 0, 1) := qd3_55.2.2.1
theorem dX7_isWord_27 : decode cX7_isWord 27 = .ok (.istore_n 2, 1) := qd3_55.2.2.2.1
theorem dX7_isWord_28 : decode cX7_isWord 28 = .ok (.iload_n 2, 1) := qd3_55.2.2.2.2.1
theorem dX7_isWord_29 : decode cX7_isWord 29 = .ok (.aload_n 1, 1) := qd3_55.2.2.2.2.2.1
theorem dX7_isWord_30 : decode cX7_isWord 30 = .ok (.invokevirtual 177, 3) := qd3_55.2.2.2.2.2.2.1
theorem dX7_isWord_33 : decode cX7_isWord 33 = .ok (.if_icmp .ge 30, 3) := qd3_55.2.2.2.2.2.2.2.1
theorem dX7_isWord_36 : decode cX7_isWord 36 = .ok (.aload_n 0, 1) := qd3_55.2.2.2.2.2.2.2.2.1
theorem dX7_isWord_37 : decode cX7_isWord 37 = .ok (.getfield 31, 3) := qd3_55.2.2.2.2.2.2.2.2.2.1
theorem dX7_isWord_40 : decode cX7_isWord 40 = .ok (.aload_n 0, 1) := qd3_55.2.2.2.2.2.2.2.2.2.2.1
theorem dX7_isWord_41 : decode cX7_isWord 41 = .ok (.getfield 152, 3) := qd3_55.2.2.2.2.2.2.2.2.2.2.2
theorem qd3_56 : (decode cX7_isWord 44 = .ok (.iload_n 2, 1)) ∧ (decode cX7_isWord 45 = .ok (.iadd, 1)) ∧ (decode cX7_isWord 46 = .ok (.iaload, 1)) ∧ (decode cX7_isWord 47 = .ok (.aload_n 1, 1)) ∧ (decode cX7_isWord 48 = .ok (.iload_n 2, 1)) ∧ (decode cX7_isWord 49 = .ok (.invokevirtual 183, 3)) ∧ (decode cX7_isWord 52 = .ok (.if_icmp .eq 5, 3)) ∧ (decode cX7_isWord 55 = .ok (.iconst 0, 1)) ∧ (decode cX7_isWord 56 = .ok (.ireturn, 1)) ∧ (decode cX7_isWord 57 = .ok (.iinc 2 1, 3)) ∧ (decode cX7_isWord 60 = .ok (.goto (-32), 3)) ∧ (decode cX7_isWord 63 = .ok (.iconst 1, 1)) := by decide +kernel
theorem dX7_isWord_44 : decode cX7_isWord 44 = .ok (.iload_n 2, 1) := qd3_56.1
theorem dX7_isWord_45 : decode cX7_isWord 45 = .ok (.iadd, 1) := qd3_56.2.1
theorem dX7_isWord_46 : decode cX7_isWord 46 = .ok (.iaload, 1) := qd3_56.2.2.1
theorem dX7_isWord_47 : decode cX7_isWord 47 = .ok (.aload_n 1, 1) := qd3_56.2.2.2.1
theorem dX7_isWord_48 : decode cX7_isWord 48 = .ok (.iload_n 2, 1) := qd3_56.2.2.2.2.1
theorem dX7_isWord_49 : decode cX7_isWord 49 = .ok (.invokevirtual 183, 3) := qd3_56.2.2.2.2.2.1
theorem dX7_isWord_52 : decode cX7_isWord 52 = .ok (.if_icmp .eq 5, 3) := qd3_56.2.2.2.2.2.2.1
theorem dX7_isWord_55 : decode cX7_isWord 55 = .ok (.iconst 0, 1) := qd3_56.2.2.2.2.2.2.2.1
theorem dX7_isWord_56 : decode cX7_isWord 56 = .ok (.ireturn, 1) := qd3_56.2.2.2.2.2.2.2.2.1
theorem dX7_isWord_57 : decode cX7_isWord 57 = .ok (.iinc 2 1, 3) := qd3_56.2.2.2.2.2.2.2.2.2.1
theorem dX7_isWord_60 : decode cX7_isWord 60 = .ok (.goto (-32), 3) := qd3_56.2.2.2.2.2.2.2.2.2.2.1
theorem dX7_isWord_63 : decode cX7_isWord 63 = .ok (.iconst 1, 1) := qd3_56.2.2.2.2.2.2.2.2.2.2.2
theorem dX7_isWord_64 : decode cX7_isWord 64 = .ok (.ireturn, 1) := by decide +kernel
theorem qd3_57 : (decode cX7_number 0 = .ok (.aload_n 0, 1)) ∧ (decode cX7_number 1 = .ok (.getfield 159, 3)) ∧ (decode cX7_number 4 = .ok (.iconst 2, 1)) ∧ (decode cX7_number 5 = .ok (.if_icmp .ne 18, 3)) ∧ (decode cX7_number 8 = .ok (.aload_n 0, 1)) ∧ (decode cX7_number 9 = .ok (.getfield 155, 3)) ∧ (decode cX7_number 12 = .ok (.iload_n 3, 1)) ∧ (decode cX7_number 13 = .ok (.i2l, 1)) ∧ (decode cX7_number 14 = .ok (.iload 4, 2)) ∧ (decode cX7_number 16 = .ok (.i2l, 1)) ∧ (decode cX7_number 17 = .ok (.invokestatic 78, 3)) ∧ (decode cX7_number 20 = .ok (.ifCond .ne 8, 3)) := by decide +kernel
theorem dX7_number_0 : decode cX7_number 0 = .ok (.aload_n 0, 1) := qd3_57.1
theorem dX7_number_1 : decode cX7_number 1 = .ok (.getfield 159, 3) := qd3_57.2.1
theorem dX7_number_4 : decode cX7_number 4 = .ok (.iconst 2, 1) := qd3_57.2.2.1
theorem dX7_number_5 : decode cX7_number 5 = .ok (.if_icmp .ne 18, 3) := qd3_57.2.2.2.1
theorem dX7_number_8 : decode cX7_number 8 = .ok (.aload_n 0, 1) := qd3_57.2.2.2.2.1
theorem dX7_number_9 : decode cX7_number 9 = .ok (.getfield 155, 3) := qd3_57.2.2.2.2.2.1
theorem dX7_number_12 : decode cX7_number 12 = .ok (.iload_n 3, 1) := qd3_57.2.2.2.2.2.2.1
theorem dX7_number_13 : decode cX7_number 13 = .ok (.i2l, 1) := qd3_57.2.2.2.2.2.2.2.1
theorem dX7_number_14 : decode cX7_number 14 = .ok (.iload 4, 2) := qd3_57.2.2.2.2.2.2.2.2.1
theorem dX7_number_16 : decode cX7_number 16 = .ok (.i2l, 1) := qd3_57.2.2.2.2.2.2.2.2.2.1
theorem dX7_number_17 : decode cX7_number 17 = .ok (.invokestatic 78, 3) := qd3_57.2.2.2.2.2.2.2.2.2.2.1
theorem dX7_number_20 : decode cX7_number 20 = .ok (.ifCond .ne 8, 3) := qd3_57.2.2.2.2.2.2.2.2.2.2.2
theorem qd3_58 : (decode cX7_number 23 = .ok (.aload_n 0, 1)) ∧ (decode cX7_number 24 = .ok (.invokevirtual 187, 3)) ∧ (decode cX7_number 27 = .ok (.ireturn, 1)) ∧ (decode cX7_number 28 = .ok (.aload_n 1, 1)) ∧ (decode cX7_number 29 = .ok (.iload_n 2, 1)) ∧ (decode cX7_number 30 = .ok (.aload_n 0, 1)) ∧ (decode cX7_number 31 = .ok (.getfield 155, 3)) ∧ (decode cX7_number 34 = .ok (.l2i, 1)) ∧ (decode cX7_number 35 = .ok (.iastore, 1)) ∧ (decode cX7_number 36 = .ok (.aload_n 0, 1)) ∧ (decode cX7_number 37 = .ok (.invokevirtual 191, 3)) ∧ (decode cX7_number 40 = .ok (.iconst 1, 1)) := by decide +kernel
theorem dX7_number_23 : decode cX7_number 23 = .ok (.aload_n 0, 1) := qd3_58.1
theorem dX7_number_24 : decode cX7_number 24 = .ok (.invokevirtual 187, 3) := qd3_58.2.1
theorem dX7_number_27 : decode cX7_number 27 = .ok (.ireturn, 1) := qd3_58.2.2.1
theorem dX7_number_28 : decode cX7_number 28 = .ok (.aload_n 1, 1) := qd3_58.2.2.2.1
theorem dX7_number_29 : decode cX7_number 29 = .ok (.iload_n 2, 1) := qd3_58.2.2.2.2.1
theorem dX7_number_30 : decode cX7_number 30 = .ok (.aload_n 0, 1) := qd3_58.2.2.2.2.2.1
theorem dX7_number_31 : decode cX7_number 31 = .ok (.getfield 155, 3) := qd3_58.2.2.2.2.2.2.1
theorem dX7_number_34 : decode cX7_number 34 = .ok (.l2i, 1) := qd3_58.2.2.2.2.2.2.2.1
theorem dX7_number_35 : decode cX7_number 35 = .ok (.iastore, 1) := qd3_58.2.2.2.2.2.2.2.2.1
theorem dX7_number_36 : decode cX7_number 36 = .ok (.aload_n 0, 1) := qd3_58.2.2.2.2.2.2.2.2.2.1
theorem dX7_number_37 : decode cX7_number 37 = .ok (.invokevirtual 191, 3) := qd3_58.2.2.2.2.2.2.2.2.2.2.1
theorem dX7_number_40 : decode cX7_number 40 = .ok (.iconst 1, 1) := qd3_58.2.2.2.2.2.2.2.2.2.2.2
theorem dX7_number_41 : decode cX7_number 41 = .ok (.ireturn, 1) := by decide +kernel
theorem qd3_59 : (decode cX7_told 0 = .ok (.aload_n 0, 1)) ∧ (decode cX7_told 1 = .ok (.aload_n 1, 1)) ∧ (decode cX7_told 2 = .ok (.invokevirtual 194, 3)) ∧ (decode cX7_told 5 = .ok (.ifCond .ne 8, 3)) ∧ (decode cX7_told 8 = .ok (.aload_n 0, 1)) ∧ (decode cX7_told 9 = .ok (.invokevirtual 187, 3)) ∧ (decode cX7_told 12 = .ok (.ireturn, 1)) ∧ (decode cX7_told 13 = .ok (.aload_n 0, 1)) ∧ (decode cX7_told 14 = .ok (.invokevirtual 191, 3)) ∧ (decode cX7_told 17 = .ok (.aload_n 0, 1)) ∧ (decode cX7_told 18 = .ok (.aload_n 2, 1)) ∧ (decode cX7_told 19 = .ok (.iload_n 3, 1)) := by decide +kernel
theorem dX7_told_0 : decode cX7_told 0 = .ok (.aload_n 0, 1) := qd3_59.1
theorem dX7_told_1 : decode cX7_told 1 = .ok (.aload_n 1, 1) := qd3_59.2.1
theorem dX7_told_2 : decode cX7_told 2 = .ok (.invokevirtual 194, 3) := qd3_59.2.2.1
theorem dX7_told_5 : decode cX7_told 5 = .ok (.ifCond .ne 8, 3) := qd3_59.2.2.2.1
theorem dX7_told_8 : decode cX7_told 8 = .ok (.aload_n 0, 1) := qd3_59.2.2.2.2.1
theorem dX7_told_9 : decode cX7_told 9 = .ok (.invokevirtual 187, 3) := qd3_59.2.2.2.2.2.1
theorem dX7_told_12 : decode cX7_told 12 = .ok (.ireturn, 1) := qd3_59.2.2.2.2.2.2.1
theorem dX7_told_13 : decode cX7_told 13 = .ok (.aload_n 0, 1) := qd3_59.2.2.2.2.2.2.2.1
theorem dX7_told_14 : decode cX7_told 14 = .ok (.invokevirtual 191, 3) := qd3_59.2.2.2.2.2.2.2.2.1
theorem dX7_told_17 : decode cX7_told 17 = .ok (.aload_n 0, 1) := qd3_59.2.2.2.2.2.2.2.2.2.1
theorem dX7_told_18 : decode cX7_told 18 = .ok (.aload_n 2, 1) := qd3_59.2.2.2.2.2.2.2.2.2.2.1
theorem dX7_told_19 : decode cX7_told 19 = .ok (.iload_n 3, 1) := qd3_59.2.2.2.2.2.2.2.2.2.2.2
theorem qd3_60 : (decode cX7_told 20 = .ok (.iload 4, 2)) ∧ (decode cX7_told 22 = .ok (.iload 5, 2)) ∧ (decode cX7_told 24 = .ok (.invokevirtual 198, 3)) ∧ (decode cX7_told 27 = .ok (.ireturn, 1)) := by decide +kernel
theorem dX7_told_20 : decode cX7_told 20 = .ok (.iload 4, 2) := qd3_60.1
theorem dX7_told_22 : decode cX7_told 22 = .ok (.iload 5, 2) := qd3_60.2.1
theorem dX7_told_24 : decode cX7_told 24 = .ok (.invokevirtual 198, 3) := qd3_60.2.2.1
theorem dX7_told_27 : decode cX7_told 27 = .ok (.ireturn, 1) := qd3_60.2.2.2
theorem qd3_61 : (decode cX7_perhaps 0 = .ok (.aload_n 0, 1)) ∧ (decode cX7_perhaps 1 = .ok (.aload_n 1, 1)) ∧ (decode cX7_perhaps 2 = .ok (.invokevirtual 194, 3)) ∧ (decode cX7_perhaps 5 = .ok (.ifCond .eq 17, 3)) ∧ (decode cX7_perhaps 8 = .ok (.aload_n 0, 1)) ∧ (decode cX7_perhaps 9 = .ok (.aload_n 1, 1)) ∧ (decode cX7_perhaps 10 = .ok (.aload_n 2, 1)) ∧ (decode cX7_perhaps 11 = .ok (.iload_n 3, 1)) ∧ (decode cX7_perhaps 12 = .ok (.iload 4, 2)) ∧ (decode cX7_perhaps 14 = .ok (.iload 5, 2)) ∧ (decode cX7_perhaps 16 = .ok (.invokevirtual 202, 3)) ∧ (decode cX7_perhaps 19 = .ok (.ifCond .eq 7, 3)) := by decide +kernel
theorem dX7_perhaps_0 : decode cX7_perhaps 0 = .ok (.aload_n 0, 1) := qd3_61.1
theorem dX7_perhaps_1 : decode cX7_perhaps 1 = .ok (.aload_n 1, 1) := qd3_61.2.1
theorem dX7_perhaps_2 : decode cX7_perhaps 2 = .ok (.invokevirtual 194, 3) := qd3_61.2.2.1
theorem dX7_perhaps_5 : decode cX7_perhaps 5 = .ok (.ifCond .eq 17, 3) := qd3_61.2.2.2.1
theorem dX7_perhaps_8 : decode cX7_perhaps 8 = .ok (.aload_n 0, 1) := qd3_61.2.2.2.2.1
theorem dX7_perhaps_9 : decode cX7_perhaps 9 = .ok (.aload_n 1, 1) := qd3_61.2.2.2.2.2.1
theorem dX7_perhaps_10 : decode cX7_perhaps 10 = .ok (.aload_n 2, 1) := qd3_61.2.2.2.2.2.2.1
theorem dX7_perhaps_11 : decode cX7_perhaps 11 = .ok (.iload_n 3, 1) := qd3_61.2.2.2.2.2.2.2.1
theorem dX7_perhaps_12 : decode cX7_perhaps 12 = .ok (.iload 4, 2) := qd3_61.2.2.2.2.2.2.2.2.1
theorem dX7_perhaps_14 : decode cX7_perhaps 14 = .ok (.iload 5, 2) := qd3_61.2.2.2.2.2.2.2.2.2.1
theorem dX7_perhaps_16 : decode cX7_perhaps 16 = .ok (.invokevirtual 202, 3) := qd3_61.2.2.2.2.2.2.2.2.2.2.1
theorem dX7_perhaps_19 : decode cX7_perhaps 19 = .ok (.ifCond .eq 7, 3) := qd3_61.2.2.2.2.2.2.2.2.2.2.2
theorem qd3_62 : (decode cX7_perhaps 22 = .ok (.iconst 1, 1)) ∧ (decode cX7_perhaps 23 = .ok (.goto 4, 3)) ∧ (decode cX7_perhaps 26 = .ok (.iconst 0, 1)) ∧ (decode cX7_perhaps 27 = .ok (.ireturn, 1)) := by decide +kernel
theorem dX7_perhaps_22 : decode cX7_perhaps 22 = .ok (.iconst 1, 1) := qd3_62.1
theorem dX7_perhaps_23 : decode cX7_perhaps 23 = .ok (.goto 4, 3) := qd3_62.2.1
theorem dX7_perhaps_26 : decode cX7_perhaps 26 = .ok (.iconst 0, 1) := qd3_62.2.2.1
theorem dX7_perhaps_27 : decode cX7_perhaps 27 = .ok (.ireturn, 1) := qd3_62.2.2.2
theorem qd3_63 : (decode cX7_two 0 = .ok (.aload_n 0, 1)) ∧ (decode cX7_two 1 = .ok (.invokevirtual 191, 3)) ∧ (decode cX7_two 4 = .ok (.aload_n 0, 1)) ∧ (decode cX7_two 5 = .ok (.aload_n 1, 1)) ∧ (decode cX7_two 6 = .ok (.iconst 0, 1)) ∧ (decode cX7_two 7 = .ok (.iconst 0, 1)) ∧ (decode cX7_two 8 = .ok (.bipush 11, 2)) ∧ (decode cX7_two 10 = .ok (.invokevirtual 198, 3)) ∧ (decode cX7_two 13 = .ok (.ifCond .ne 5, 3)) ∧ (decode cX7_two 16 = .ok (.iconst 0, 1)) ∧ (decode cX7_two 17 = .ok (.ireturn, 1)) ∧ (decode cX7_two 18 = .ok (.aload_n 0, 1)) := by decide +kernel
theorem dX7_two_0 : decode cX7_two 0 = .ok (.aload_n 0, 1) := qd3_63.1
theorem dX7_two_1 : decode cX7_two 1 = .ok (.invokevirtual 191, 3) := qd3_63.2.1
theorem dX7_two_4 : decode cX7_two 4 = .ok (.aload_n 0, 1) := qd3_63.2.2.1
theorem dX7_two_5 : decode cX7_two 5 = .ok (.aload_n 1, 1) := qd3_63.2.2.2.1
theorem dX7_two_6 : decode cX7_two 6 = .ok (.iconst 0, 1) := qd3_63.2.2.2.2.1
theorem dX7_two_7 : decode cX7_two 7 = .ok (.iconst 0, 1) := qd3_63.2.2.2.2.2.1
theorem dX7_two_8 : decode cX7_two 8 = .ok (.bipush 11, 2) := qd3_63.2.2.2.2.2.2.1
theorem dX7_two_10 : decode cX7_two 10 = .ok (.invokevirtual 198, 3) := qd3_63.2.2.2.2.2.2.2.1
theorem dX7_two_13 : decode cX7_two 13 = .ok (.ifCond .ne 5, 3) := qd3_63.2.2.2.2.2.2.2.2.1
theorem dX7_two_16 : decode cX7_two 16 = .ok (.iconst 0, 1) := qd3_63.2.2.2.2.2.2.2.2.2.1
theorem dX7_two_17 : decode cX7_two 17 = .ok (.ireturn, 1) := qd3_63.2.2.2.2.2.2.2.2.2.2.1
theorem dX7_two_18 : decode cX7_two 18 = .ok (.aload_n 0, 1) := qd3_63.2.2.2.2.2.2.2.2.2.2.2
theorem qd3_64 : (decode cX7_two 19 = .ok (.getfield 159, 3)) ∧ (decode cX7_two 22 = .ok (.iconst 2, 1)) ∧ (decode cX7_two 23 = .ok (.if_icmp .ne 20, 3)) ∧ (decode cX7_two 26 = .ok (.aload_n 0, 1)) ∧ (decode cX7_two 27 = .ok (.getfield 155, 3)) ∧ (decode cX7_two 30 = .ok (.aload_n 1, 1)) ∧ (decode cX7_two 31 = .ok (.iconst 0, 1)) ∧ (decode cX7_two 32 = .ok (.iaload, 1)) ∧ (decode cX7_two 33 = .ok (.i2l, 1)) ∧ (decode cX7_two 34 = .ok (.lcmp, 1)) ∧ (decode cX7_two 35 = .ok (.ifCond .ne 8, 3)) ∧ (decode cX7_two 38 = .ok (.aload_n 0, 1)) := by decide +kernel
theorem dX7_two_19 : decode cX7_two 19 = .ok (.getfield 159, 3) := qd3_64.1
theorem dX7_two_22 : decode cX7_two 22 = .ok (.iconst 2, 1) := qd3_64.2.1
theorem dX7_two_23 : decode cX7_two 23 = .ok (.if_icmp .ne 20, 3) := qd3_64.2.2.1
theorem dX7_two_26 : decode cX7_two 26 = .ok (.aload_n 0, 1) := qd3_64.2.2.2.1
theorem dX7_two_27 : decode cX7_two 27 = .ok (.getfield 155, 3) := qd3_64.2.2.2.2.1
theorem dX7_two_30 : decode cX7_two 30 = .ok (.aload_n 1, 1) := qd3_64.2.2.2.2.2.1
theorem dX7_two_31 : decode cX7_two 31 = .ok (.iconst 0, 1) := qd3_64.2.2.2.2.2.2.1
theorem dX7_two_32 : decode cX7_two 32 = .ok (.iaload, 1) := qd3_64.2.2.2.2.2.2.2.1
theorem dX7_two_33 : decode cX7_two 33 = .ok (.i2l, 1) := qd3_64.2.2.2.2.2.2.2.2.1
theorem dX7_two_34 : decode cX7_two 34 = .ok (.lcmp, 1) := qd3_64.2.2.2.2.2.2.2.2.2.1
theorem dX7_two_35 : decode cX7_two 35 = .ok (.ifCond .ne 8, 3) := qd3_64.2.2.2.2.2.2.2.2.2.2.1
theorem dX7_two_38 : decode cX7_two 38 = .ok (.aload_n 0, 1) := qd3_64.2.2.2.2.2.2.2.2.2.2.2
theorem qd3_65 : (decode cX7_two 39 = .ok (.invokevirtual 187, 3)) ∧ (decode cX7_two 42 = .ok (.ireturn, 1)) ∧ (decode cX7_two 43 = .ok (.aload_n 0, 1)) ∧ (decode cX7_two 44 = .ok (.aload_n 1, 1)) ∧ (decode cX7_two 45 = .ok (.iconst 1, 1)) ∧ (decode cX7_two 46 = .ok (.iconst 0, 1)) ∧ (decode cX7_two 47 = .ok (.bipush 11, 2)) ∧ (decode cX7_two 49 = .ok (.invokevirtual 198, 3)) ∧ (decode cX7_two 52 = .ok (.ireturn, 1)) := by decide +kernel
theorem dX7_two_39 : decode cX7_two 39 = .ok (.invokevirtual 187, 3) := qd3_65.1
theorem dX7_two_42 : decode cX7_two 42 = .ok (.ireturn, 1) := qd3_65.2.1
theorem dX7_two_43 : decode cX7_two 43 = .ok (.aload_n 0, 1) := qd3_65.2.2.1
theorem dX7_two_44 : decode cX7_two 44 = .ok (.aload_n 1, 1) := qd3_65.2.2.2.1
theorem dX7_two_45 : decode cX7_two 45 = .ok (.iconst 1, 1) := qd3_65.2.2.2.2.1
theorem dX7_two_46 : decode cX7_two 46 = .ok (.iconst 0, 1) := qd3_65.2.2.2.2.2.1
theorem dX7_two_47 : decode cX7_two 47 = .ok (.bipush 11, 2) := qd3_65.2.2.2.2.2.2.1
theorem dX7_two_49 : decode cX7_two 49 = .ok (.invokevirtual 198, 3) := qd3_65.2.2.2.2.2.2.2.1
theorem dX7_two_52 : decode cX7_two 52 = .ok (.ireturn, 1) := qd3_65.2.2.2.2.2.2.2.2
theorem qd3_66 : (decode cX7_statement 0 = .ok (.aload_n 0, 1)) ∧ (decode cX7_statement 1 = .ok (.ldc 206, 2)) ∧ (decode cX7_statement 3 = .ok (.invokevirtual 194, 3)) ∧ (decode cX7_statement 6 = .ok (.ifCond .eq 108, 3)) ∧ (decode cX7_statement 9 = .ok (.aload_n 0, 1)) ∧ (decode cX7_statement 10 = .ok (.getfield 82, 3)) ∧ (decode cX7_statement 13 = .ok (.bipush 20, 2)) ∧ (decode cX7_statement 15 = .ok (.if_icmp .ge 99, 3)) ∧ (decode cX7_statement 18 = .ok (.aload_n 0, 1)) ∧ (decode cX7_statement 19 = .ok (.getfield 39, 3)) ∧ (decode cX7_statement 22 = .ok (.aload_n 0, 1)) ∧ (decode cX7_statement 23 = .ok (.getfield 82, 3)) := by decide +kernel
theorem dX7_statement_0 : decode cX7_statement 0 = .ok (.aload_n 0, 1) := qd3_66.1
theorem dX7_statement_1 : decode cX7_statement 1 = .ok (.ldc 206, 2) := qd3_66.2.1
theorem dX7_statement_3 : decode cX7_statement 3 = .ok (.invokevirtual 194, 3) := qd3_66.2.2.1
theorem dX7_statement_6 : decode cX7_statement 6 = .ok (.ifCond .eq 108, 3) := qd3_66.2.2.2.1
theorem dX7_statement_9 : decode cX7_statement 9 = .ok (.aload_n 0, 1) := qd3_66.2.2.2.2.1
theorem dX7_statement_10 : decode cX7_statement 10 = .ok (.getfield 82, 3) := qd3_66.2.2.2.2.2.1
theorem dX7_statement_13 : decode cX7_statement 13 = .ok (.bipush 20, 2) := qd3_66.2.2.2.2.2.2.1
theorem dX7_statement_15 : decode cX7_statement 15 = .ok (.if_icmp .ge 99, 3) := qd3_66.2.2.2.2.2.2.2.1
theorem dX7_statement_18 : decode cX7_statement 18 = .ok (.aload_n 0, 1) := qd3_66.2.2.2.2.2.2.2.2.1
theorem dX7_statement_19 : decode cX7_statement 19 = .ok (.getfield 39, 3) := qd3_66.2.2.2.2.2.2.2.2.2.1
theorem dX7_statement_22 : decode cX7_statement 22 = .ok (.aload_n 0, 1) := qd3_66.2.2.2.2.2.2.2.2.2.2.1
theorem dX7_statement_23 : decode cX7_statement 23 = .ok (.getfield 82, 3) := qd3_66.2.2.2.2.2.2.2.2.2.2.2
theorem qd3_67 : (decode cX7_statement 26 = .ok (.aaload, 1)) ∧ (decode cX7_statement 27 = .ok (.astore_n 1, 1)) ∧ (decode cX7_statement 28 = .ok (.aload_n 0, 1)) ∧ (decode cX7_statement 29 = .ok (.iconst 0, 1)) ∧ (decode cX7_statement 30 = .ok (.iconst 0, 1)) ∧ (decode cX7_statement 31 = .ok (.invokevirtual 119, 3)) ∧ (decode cX7_statement 34 = .ok (.aload_n 0, 1)) ∧ (decode cX7_statement 35 = .ok (.aload_n 1, 1)) ∧ (decode cX7_statement 36 = .ok (.invokevirtual 207, 3)) ∧ (decode cX7_statement 39 = .ok (.ifCond .eq 31, 3)) ∧ (decode cX7_statement 42 = .ok (.aload_n 0, 1)) ∧ (decode cX7_statement 43 = .ok (.ldc 211, 2)) := by decide +kernel
theorem dX7_statement_26 : decode cX7_statement 26 = .ok (.aaload, 1) := qd3_67.1
theorem dX7_statement_27 : decode cX7_statement 27 = .ok (.astore_n 1, 1) := qd3_67.2.1
theorem dX7_statement_28 : decode cX7_statement 28 = .ok (.aload_n 0, 1) := qd3_67.2.2.1
theorem dX7_statement_29 : decode cX7_statement 29 = .ok (.iconst 0, 1) := qd3_67.2.2.2.1
theorem dX7_statement_30 : decode cX7_statement 30 = .ok (.iconst 0, 1) := qd3_67.2.2.2.2.1
theorem dX7_statement_31 : decode cX7_statement 31 = .ok (.invokevirtual 119, 3) := qd3_67.2.2.2.2.2.1
theorem dX7_statement_34 : decode cX7_statement 34 = .ok (.aload_n 0, 1) := qd3_67.2.2.2.2.2.2.1
theorem dX7_statement_35 : decode cX7_statement 35 = .ok (.aload_n 1, 1) := qd3_67.2.2.2.2.2.2.2.1
theorem dX7_statement_36 : decode cX7_statement 36 = .ok (.invokevirtual 207, 3) := qd3_67.2.2.2.2.2.2.2.2.1
theorem dX7_statement_39 : decode cX7_statement 39 = .ok (.ifCond .eq 31, 3) := qd3_67.2.2.2.2.2.2.2.2.2.1
theorem dX7_statement_42 : decode cX7_statement 42 = .ok (.aload_n 0, 1) := qd3_67.2.2.2.2.2.2.2.2.2.2.1
theorem dX7_statement_43 : decode cX7_statement 43 = .ok (.ldc 211, 2) := qd3_67.2.2.2.2.2.2.2.2.2.2.2
theorem qd3_68 : (decode cX7_statement 45 = .ok (.aload_n 1, 1)) ∧ (decode cX7_statement 46 = .ok (.iconst 2, 1)) ∧ (decode cX7_statement 47 = .ok (.iconst 1, 1)) ∧ (decode cX7_statement 48 = .ok (.bipush 7, 2)) ∧ (decode cX7_statement 50 = .ok (.invokevirtual 202, 3)) ∧ (decode cX7_statement 53 = .ok (.ifCond .eq 17, 3)) ∧ (decode cX7_statement 56 = .ok (.aload_n 0, 1)) ∧ (decode cX7_statement 57 = .ok (.ldc 213, 2)) ∧ (decode cX7_statement 59 = .ok (.aload_n 1, 1)) ∧ (decode cX7_statement 60 = .ok (.iconst 3, 1)) ∧ (decode cX7_statement 61 = .ok (.iconst 1, 1)) ∧ (decode cX7_statement 62 = .ok (.bipush 60, 2)) := by decide +kernel
theorem dX7_statement_45 : decode cX7_statement 45 = .ok (.aload_n 1, 1) := qd3_68.1
theorem dX7_statement_46 : decode cX7_statement 46 = .ok (.iconst 2, 1) := qd3_68.2.1
theorem dX7_statement_47 : decode cX7_statement 47 = .ok (.iconst 1, 1) := qd3_68.2.2.1
theorem dX7_statement_48 : decode cX7_statement 48 = .ok (.bipush 7, 2) := qd3_68.2.2.2.1
theorem dX7_statement_50 : decode cX7_statement 50 = .ok (.invokevirtual 202, 3) := qd3_68.2.2.2.2.1
theorem dX7_statement_53 : decode cX7_statement 53 = .ok (.ifCond .eq 17, 3) := qd3_68.2.2.2.2.2.1
theorem dX7_statement_56 : decode cX7_statement 56 = .ok (.aload_n 0, 1) := qd3_68.2.2.2.2.2.2.1
theorem dX7_statement_57 : decode cX7_statement 57 = .ok (.ldc 213, 2) := qd3_68.2.2.2.2.2.2.2.1
theorem dX7_statement_59 : decode cX7_statement 59 = .ok (.aload_n 1, 1) := qd3_68.2.2.2.2.2.2.2.2.1
theorem dX7_statement_60 : decode cX7_statement 60 = .ok (.iconst 3, 1) := qd3_68.2.2.2.2.2.2.2.2.2.1
theorem dX7_statement_61 : decode cX7_statement 61 = .ok (.iconst 1, 1) := qd3_68.2.2.2.2.2.2.2.2.2.2.1
theorem dX7_statement_62 : decode cX7_statement 62 = .ok (.bipush 60, 2) := qd3_68.2.2.2.2.2.2.2.2.2.2.2
theorem qd3_69 : (decode cX7_statement 64 = .ok (.invokevirtual 202, 3)) ∧ (decode cX7_statement 67 = .ok (.ifCond .ne 5, 3)) ∧ (decode cX7_statement 70 = .ok (.iconst 0, 1)) ∧ (decode cX7_statement 71 = .ok (.ireturn, 1)) ∧ (decode cX7_statement 72 = .ok (.aload_n 0, 1)) ∧ (decode cX7_statement 73 = .ok (.ldc 215, 2)) ∧ (decode cX7_statement 75 = .ok (.aload_n 1, 1)) ∧ (decode cX7_statement 76 = .ok (.iconst 4, 1)) ∧ (decode cX7_statement 77 = .ok (.iconst 1, 1)) ∧ (decode cX7_statement 78 = .ok (.sipush 999, 3)) ∧ (decode cX7_statement 81 = .ok (.invokevirtual 217, 3)) ∧ (decode cX7_statement 84 = .ok (.ifCond .eq 16, 3)) := by decide +kernel
theorem dX7_statement_64 : decode cX7_statement 64 = .ok (.invokevirtual 202, 3) := qd3_69.1
theorem dX7_statement_67 : decode cX7_statement 67 = .ok (.ifCond .ne 5, 3) := qd3_69.2.1
theorem dX7_statement_70 : decode cX7_statement 70 = .ok (.iconst 0, 1) := qd3_69.2.2.1
theorem dX7_statement_71 : decode cX7_statement 71 = .ok (.ireturn, 1) := qd3_69.2.2.2.1
theorem dX7_statement_72 : decode cX7_statement 72 = .ok (.aload_n 0, 1) := qd3_69.2.2.2.2.1
theorem dX7_statement_73 : decode cX7_statement 73 = .ok (.ldc 215, 2) := qd3_69.2.2.2.2.2.1
theorem dX7_statement_75 : decode cX7_statement 75 = .ok (.aload_n 1, 1) := qd3_69.2.2.2.2.2.2.1
theorem dX7_statement_76 : decode cX7_statement 76 = .ok (.iconst 4, 1) := qd3_69.2.2.2.2.2.2.2.1
theorem dX7_statement_77 : decode cX7_statement 77 = .ok (.iconst 1, 1) := qd3_69.2.2.2.2.2.2.2.2.1
theorem dX7_statement_78 : decode cX7_statement 78 = .ok (.sipush 999, 3) := qd3_69.2.2.2.2.2.2.2.2.2.1
theorem dX7_statement_81 : decode cX7_statement 81 = .ok (.invokevirtual 217, 3) := qd3_69.2.2.2.2.2.2.2.2.2.2.1
theorem dX7_statement_84 : decode cX7_statement 84 = .ok (.ifCond .eq 16, 3) := qd3_69.2.2.2.2.2.2.2.2.2.2.2
theorem qd3_70 : (decode cX7_statement 87 = .ok (.aload_n 0, 1)) ∧ (decode cX7_statement 88 = .ok (.ldc 220, 2)) ∧ (decode cX7_statement 90 = .ok (.aload_n 1, 1)) ∧ (decode cX7_statement 91 = .ok (.iconst 5, 1)) ∧ (decode cX7_statement 92 = .ok (.iconst 0, 1)) ∧ (decode cX7_statement 93 = .ok (.iconst 5, 1)) ∧ (decode cX7_statement 94 = .ok (.invokevirtual 217, 3)) ∧ (decode cX7_statement 97 = .ok (.ifCond .ne 5, 3)) ∧ (decode cX7_statement 100 = .ok (.iconst 0, 1)) ∧ (decode cX7_statement 101 = .ok (.ireturn, 1)) ∧ (decode cX7_statement 102 = .ok (.aload_n 0, 1)) ∧ (decode cX7_statement 103 = .ok (.dup, 1)) := by decide +kernel
theorem dX7_statement_87 : decode cX7_statement 87 = .ok (.aload_n 0, 1) := qd3_70.1
theorem dX7_statement_88 : decode cX7_statement 88 = .ok (.ldc 220, 2) := qd3_70.2.1
theorem dX7_statement_90 : decode cX7_statement 90 = .ok (.aload_n 1, 1) := qd3_70.2.2.1
theorem dX7_statement_91 : decode cX7_statement 91 = .ok (.iconst 5, 1) := qd3_70.2.2.2.1
theorem dX7_statement_92 : decode cX7_statement 92 = .ok (.iconst 0, 1) := qd3_70.2.2.2.2.1
theorem dX7_statement_93 : decode cX7_statement 93 = .ok (.iconst 5, 1) := qd3_70.2.2.2.2.2.1
theorem dX7_statement_94 : decode cX7_statement 94 = .ok (.invokevirtual 217, 3) := qd3_70.2.2.2.2.2.2.1
theorem dX7_statement_97 : decode cX7_statement 97 = .ok (.ifCond .ne 5, 3) := qd3_70.2.2.2.2.2.2.2.1
theorem dX7_statement_100 : decode cX7_statement 100 = .ok (.iconst 0, 1) := qd3_70.2.2.2.2.2.2.2.2.1
theorem dX7_statement_101 : decode cX7_statement 101 = .ok (.ireturn, 1) := qd3_70.2.2.2.2.2.2.2.2.2.1
theorem dX7_statement_102 : decode cX7_statement 102 = .ok (.aload_n 0, 1) := qd3_70.2.2.2.2.2.2.2.2.2.2.1
theorem dX7_statement_103 : decode cX7_statement 103 = .ok (.dup, 1) := qd3_70.2.2.2.2.2.2.2.2.2.2.2
theorem qd3_71 : (decode cX7_statement 104 = .ok (.getfield 82, 3)) ∧ (decode cX7_statement 107 = .ok (.iconst 1, 1)) ∧ (decode cX7_statement 108 = .ok (.iadd, 1)) ∧ (decode cX7_statement 109 = .ok (.putfield 82, 3)) ∧ (decode cX7_statement 112 = .ok (.iconst 1, 1)) ∧ (decode cX7_statement 113 = .ok (.ireturn, 1)) ∧ (decode cX7_statement 114 = .ok (.aload_n 0, 1)) ∧ (decode cX7_statement 115 = .ok (.ldc 222, 2)) ∧ (decode cX7_statement 117 = .ok (.invokevirtual 194, 3)) ∧ (decode cX7_statement 120 = .ok (.ifCond .eq 62, 3)) ∧ (decode cX7_statement 123 = .ok (.aload_n 0, 1)) ∧ (decode cX7_statement 124 = .ok (.getfield 125, 3)) := by decide +kernel
theorem dX7_statement_104 : decode cX7_statement 104 = .ok (.getfield 82, 3) := qd3_71.1
theorem dX7_statement_107 : decode cX7_statement 107 = .ok (.iconst 1, 1) := qd3_71.2.1
theorem dX7_statement_108 : decode cX7_statement 108 = .ok (.iadd, 1) := qd3_71.2.2.1
theorem dX7_statement_109 : decode cX7_statement 109 = .ok (.putfield 82, 3) := qd3_71.2.2.2.1
theorem dX7_statement_112 : decode cX7_statement 112 = .ok (.iconst 1, 1) := qd3_71.2.2.2.2.1
theorem dX7_statement_113 : decode cX7_statement 113 = .ok (.ireturn, 1) := qd3_71.2.2.2.2.2.1
theorem dX7_statement_114 : decode cX7_statement 114 = .ok (.aload_n 0, 1) := qd3_71.2.2.2.2.2.2.1
theorem dX7_statement_115 : decode cX7_statement 115 = .ok (.ldc 222, 2) := qd3_71.2.2.2.2.2.2.2.1
theorem dX7_statement_117 : decode cX7_statement 117 = .ok (.invokevirtual 194, 3) := qd3_71.2.2.2.2.2.2.2.2.1
theorem dX7_statement_120 : decode cX7_statement 120 = .ok (.ifCond .eq 62, 3) := qd3_71.2.2.2.2.2.2.2.2.2.1
theorem dX7_statement_123 : decode cX7_statement 123 = .ok (.aload_n 0, 1) := qd3_71.2.2.2.2.2.2.2.2.2.2.1
theorem dX7_statement_124 : decode cX7_statement 124 = .ok (.getfield 125, 3) := qd3_71.2.2.2.2.2.2.2.2.2.2.2
theorem qd3_72 : (decode cX7_statement 127 = .ok (.bipush 8, 2)) ∧ (decode cX7_statement 129 = .ok (.if_icmp .ge 53, 3)) ∧ (decode cX7_statement 132 = .ok (.aload_n 0, 1)) ∧ (decode cX7_statement 133 = .ok (.aload_n 0, 1)) ∧ (decode cX7_statement 134 = .ok (.getfield 48, 3)) ∧ (decode cX7_statement 137 = .ok (.aload_n 0, 1)) ∧ (decode cX7_statement 138 = .ok (.getfield 125, 3)) ∧ (decode cX7_statement 141 = .ok (.aaload, 1)) ∧ (decode cX7_statement 142 = .ok (.invokevirtual 207, 3)) ∧ (decode cX7_statement 145 = .ok (.ifCond .eq 23, 3)) ∧ (decode cX7_statement 148 = .ok (.aload_n 0, 1)) ∧ (decode cX7_statement 149 = .ok (.aload_n 0, 1)) := by decide +kernel
theorem dX7_statement_127 : decode cX7_statement 127 = .ok (.bipush 8, 2) := qd3_72.1
theorem dX7_statement_129 : decode cX7_statement 129 = .ok (.if_icmp .ge 53, 3) := qd3_72.2.1
theorem dX7_statement_132 : decode cX7_statement 132 = .ok (.aload_n 0, 1) := qd3_72.2.2.1
theorem dX7_statement_133 : decode cX7_statement 133 = .ok (.aload_n 0, 1) := qd3_72.2.2.2.1
theorem dX7_statement_134 : decode cX7_statement 134 = .ok (.getfield 48, 3) := qd3_72.2.2.2.2.1
theorem dX7_statement_137 : decode cX7_statement 137 = .ok (.aload_n 0, 1) := qd3_72.2.2.2.2.2.1
theorem dX7_statement_138 : decode cX7_statement 138 = .ok (.getfield 125, 3) := qd3_72.2.2.2.2.2.2.1
theorem dX7_statement_141 : decode cX7_statement 141 = .ok (.aaload, 1) := qd3_72.2.2.2.2.2.2.2.1
theorem dX7_statement_142 : decode cX7_statement 142 = .ok (.invokevirtual 207, 3) := qd3_72.2.2.2.2.2.2.2.2.1
theorem dX7_statement_145 : decode cX7_statement 145 = .ok (.ifCond .eq 23, 3) := qd3_72.2.2.2.2.2.2.2.2.2.1
theorem dX7_statement_148 : decode cX7_statement 148 = .ok (.aload_n 0, 1) := qd3_72.2.2.2.2.2.2.2.2.2.2.1
theorem dX7_statement_149 : decode cX7_statement 149 = .ok (.aload_n 0, 1) := qd3_72.2.2.2.2.2.2.2.2.2.2.2
theorem qd3_73 : (decode cX7_statement 150 = .ok (.getfield 48, 3)) ∧ (decode cX7_statement 153 = .ok (.aload_n 0, 1)) ∧ (decode cX7_statement 154 = .ok (.getfield 125, 3)) ∧ (decode cX7_statement 157 = .ok (.aaload, 1)) ∧ (decode cX7_statement 158 = .ok (.iconst 2, 1)) ∧ (decode cX7_statement 159 = .ok (.iconst 1, 1)) ∧ (decode cX7_statement 160 = .ok (.bipush 99, 2)) ∧ (decode cX7_statement 162 = .ok (.invokevirtual 198, 3)) ∧ (decode cX7_statement 165 = .ok (.ifCond .ne 5, 3)) ∧ (decode cX7_statement 168 = .ok (.iconst 0, 1)) ∧ (decode cX7_statement 169 = .ok (.ireturn, 1)) ∧ (decode cX7_statement 170 = .ok (.aload_n 0, 1)) := by decide +kernel
theorem dX7_statement_150 : decode cX7_statement 150 = .ok (.getfield 48, 3) := qd3_73.1
theorem dX7_statement_153 : decode cX7_statement 153 = .ok (.aload_n 0, 1) := qd3_73.2.1
theorem dX7_statement_154 : decode cX7_statement 154 = .ok (.getfield 125, 3) := qd3_73.2.2.1
theorem dX7_statement_157 : decode cX7_statement 157 = .ok (.aaload, 1) := qd3_73.2.2.2.1
theorem dX7_statement_158 : decode cX7_statement 158 = .ok (.iconst 2, 1) := qd3_73.2.2.2.2.1
theorem dX7_statement_159 : decode cX7_statement 159 = .ok (.iconst 1, 1) := qd3_73.2.2.2.2.2.1
theorem dX7_statement_160 : decode cX7_statement 160 = .ok (.bipush 99, 2) := qd3_73.2.2.2.2.2.2.1
theorem dX7_statement_162 : decode cX7_statement 162 = .ok (.invokevirtual 198, 3) := qd3_73.2.2.2.2.2.2.2.1
theorem dX7_statement_165 : decode cX7_statement 165 = .ok (.ifCond .ne 5, 3) := qd3_73.2.2.2.2.2.2.2.2.1
theorem dX7_statement_168 : decode cX7_statement 168 = .ok (.iconst 0, 1) := qd3_73.2.2.2.2.2.2.2.2.2.1
theorem dX7_statement_169 : decode cX7_statement 169 = .ok (.ireturn, 1) := qd3_73.2.2.2.2.2.2.2.2.2.2.1
theorem dX7_statement_170 : decode cX7_statement 170 = .ok (.aload_n 0, 1) := qd3_73.2.2.2.2.2.2.2.2.2.2.2
theorem qd3_74 : (decode cX7_statement 171 = .ok (.dup, 1)) ∧ (decode cX7_statement 172 = .ok (.getfield 125, 3)) ∧ (decode cX7_statement 175 = .ok (.iconst 1, 1)) ∧ (decode cX7_statement 176 = .ok (.iadd, 1)) ∧ (decode cX7_statement 177 = .ok (.putfield 125, 3)) ∧ (decode cX7_statement 180 = .ok (.iconst 1, 1)) ∧ (decode cX7_statement 181 = .ok (.ireturn, 1)) ∧ (decode cX7_statement 182 = .ok (.aload_n 0, 1)) ∧ (decode cX7_statement 183 = .ok (.ldc 223, 2)) ∧ (decode cX7_statement 185 = .ok (.invokevirtual 194, 3)) ∧ (decode cX7_statement 188 = .ok (.ifCond .eq 26, 3)) ∧ (decode cX7_statement 191 = .ok (.aload_n 0, 1)) := by decide +kernel
theorem dX7_statement_171 : decode cX7_statement 171 = .ok (.dup, 1) := qd3_74.1
theorem dX7_statement_172 : decode cX7_statement 172 = .ok (.getfield 125, 3) := qd3_74.2.1
theorem dX7_statement_175 : decode cX7_statement 175 = .ok (.iconst 1, 1) := qd3_74.2.2.1
theorem dX7_statement_176 : decode cX7_statement 176 = .ok (.iadd, 1) := qd3_74.2.2.2.1
theorem dX7_statement_177 : decode cX7_statement 177 = .ok (.putfield 125, 3) := qd3_74.2.2.2.2.1
theorem dX7_statement_180 : decode cX7_statement 180 = .ok (.iconst 1, 1) := qd3_74.2.2.2.2.2.1
theorem dX7_statement_181 : decode cX7_statement 181 = .ok (.ireturn, 1) := qd3_74.2.2.2.2.2.2.1
theorem dX7_statement_182 : decode cX7_statement 182 = .ok (.aload_n 0, 1) := qd3_74.2.2.2.2.2.2.2.1
theorem dX7_statement_183 : decode cX7_statement 183 = .ok (.ldc 223, 2) := qd3_74.2.2.2.2.2.2.2.2.1
theorem dX7_statement_185 : decode cX7_statement 185 = .ok (.invokevirtual 194, 3) := qd3_74.2.2.2.2.2.2.2.2.2.1
theorem dX7_statement_188 : decode cX7_statement 188 = .ok (.ifCond .eq 26, 3) := qd3_74.2.2.2.2.2.2.2.2.2.2.1
theorem dX7_statement_191 : decode cX7_statement 191 = .ok (.aload_n 0, 1) := qd3_74.2.2.2.2.2.2.2.2.2.2.2
theorem qd3_75 : (decode cX7_statement 192 = .ok (.getfield 85, 3)) ∧ (decode cX7_statement 195 = .ok (.bipush 7, 2)) ∧ (decode cX7_statement 197 = .ok (.if_icmp .ge 17, 3)) ∧ (decode cX7_statement 200 = .ok (.aload_n 0, 1)) ∧ (decode cX7_statement 201 = .ok (.aload_n 0, 1)) ∧ (decode cX7_statement 202 = .ok (.getfield 51, 3)) ∧ (decode cX7_statement 205 = .ok (.aload_n 0, 1)) ∧ (decode cX7_statement 206 = .ok (.getfield 85, 3)) ∧ (decode cX7_statement 209 = .ok (.aaload, 1)) ∧ (decode cX7_statement 210 = .ok (.invokevirtual 224, 3)) ∧ (decode cX7_statement 213 = .ok (.ireturn, 1)) ∧ (decode cX7_statement 214 = .ok (.aload_n 0, 1)) := by decide +kernel
theorem dX7_statement_192 : decode cX7_statement 192 = .ok (.getfield 85, 3) := qd3_75.1
theorem dX7_statement_195 : decode cX7_statement 195 = .ok (.bipush 7, 2) := qd3_75.2.1
theorem dX7_statement_197 : decode cX7_statement 197 = .ok (.if_icmp .ge 17, 3) := qd3_75.2.2.1
theorem dX7_statement_200 : decode cX7_statement 200 = .ok (.aload_n 0, 1) := qd3_75.2.2.2.1
theorem dX7_statement_201 : decode cX7_statement 201 = .ok (.aload_n 0, 1) := qd3_75.2.2.2.2.1
theorem dX7_statement_202 : decode cX7_statement 202 = .ok (.getfield 51, 3) := qd3_75.2.2.2.2.2.1
theorem dX7_statement_205 : decode cX7_statement 205 = .ok (.aload_n 0, 1) := qd3_75.2.2.2.2.2.2.1
theorem dX7_statement_206 : decode cX7_statement 206 = .ok (.getfield 85, 3) := qd3_75.2.2.2.2.2.2.2.1
theorem dX7_statement_209 : decode cX7_statement 209 = .ok (.aaload, 1) := qd3_75.2.2.2.2.2.2.2.2.1
theorem dX7_statement_210 : decode cX7_statement 210 = .ok (.invokevirtual 224, 3) := qd3_75.2.2.2.2.2.2.2.2.2.1
theorem dX7_statement_213 : decode cX7_statement 213 = .ok (.ireturn, 1) := qd3_75.2.2.2.2.2.2.2.2.2.2.1
theorem dX7_statement_214 : decode cX7_statement 214 = .ok (.aload_n 0, 1) := qd3_75.2.2.2.2.2.2.2.2.2.2.2
theorem qd3_76 : (decode cX7_statement 215 = .ok (.ldc 227, 2)) ∧ (decode cX7_statement 217 = .ok (.invokevirtual 194, 3)) ∧ (decode cX7_statement 220 = .ok (.ifCond .eq 46, 3)) ∧ (decode cX7_statement 223 = .ok (.aload_n 0, 1)) ∧ (decode cX7_statement 224 = .ok (.ldc 227, 2)) ∧ (decode cX7_statement 226 = .ok (.aload_n 0, 1)) ∧ (decode cX7_statement 227 = .ok (.getfield 58, 3)) ∧ (decode cX7_statement 230 = .ok (.iconst 0, 1)) ∧ (decode cX7_statement 231 = .ok (.iconst 0, 1)) ∧ (decode cX7_statement 232 = .ok (.bipush 11, 2)) ∧ (decode cX7_statement 234 = .ok (.invokevirtual 202, 3)) ∧ (decode cX7_statement 237 = .ok (.ifCond .eq 27, 3)) := by decide +kernel
theorem dX7_statement_215 : decode cX7_statement 215 = .ok (.ldc 227, 2) := qd3_76.1
theorem dX7_statement_217 : decode cX7_statement 217 = .ok (.invokevirtual 194, 3) := qd3_76.2.1
theorem dX7_statement_220 : decode cX7_statement 220 = .ok (.ifCond .eq 46, 3) := qd3_76.2.2.1
theorem dX7_statement_223 : decode cX7_statement 223 = .ok (.aload_n 0, 1) := qd3_76.2.2.2.1
theorem dX7_statement_224 : decode cX7_statement 224 = .ok (.ldc 227, 2) := qd3_76.2.2.2.2.1
theorem dX7_statement_226 : decode cX7_statement 226 = .ok (.aload_n 0, 1) := qd3_76.2.2.2.2.2.1
theorem dX7_statement_227 : decode cX7_statement 227 = .ok (.getfield 58, 3) := qd3_76.2.2.2.2.2.2.1
theorem dX7_statement_230 : decode cX7_statement 230 = .ok (.iconst 0, 1) := qd3_76.2.2.2.2.2.2.2.1
theorem dX7_statement_231 : decode cX7_statement 231 = .ok (.iconst 0, 1) := qd3_76.2.2.2.2.2.2.2.2.1
theorem dX7_statement_232 : decode cX7_statement 232 = .ok (.bipush 11, 2) := qd3_76.2.2.2.2.2.2.2.2.2.1
theorem dX7_statement_234 : decode cX7_statement 234 = .ok (.invokevirtual 202, 3) := qd3_76.2.2.2.2.2.2.2.2.2.2.1
theorem dX7_statement_237 : decode cX7_statement 237 = .ok (.ifCond .eq 27, 3) := qd3_76.2.2.2.2.2.2.2.2.2.2.2
theorem qd3_77 : (decode cX7_statement 240 = .ok (.aload_n 0, 1)) ∧ (decode cX7_statement 241 = .ok (.aload_n 0, 1)) ∧ (decode cX7_statement 242 = .ok (.getfield 42, 3)) ∧ (decode cX7_statement 245 = .ok (.aload_n 0, 1)) ∧ (decode cX7_statement 246 = .ok (.getfield 58, 3)) ∧ (decode cX7_statement 249 = .ok (.iconst 0, 1)) ∧ (decode cX7_statement 250 = .ok (.iaload, 1)) ∧ (decode cX7_statement 251 = .ok (.iconst 0, 1)) ∧ (decode cX7_statement 252 = .ok (.bipush 99, 2)) ∧ (decode cX7_statement 254 = .ok (.invokevirtual 198, 3)) ∧ (decode cX7_statement 257 = .ok (.ifCond .eq 7, 3)) ∧ (decode cX7_statement 260 = .ok (.iconst 1, 1)) := by decide +kernel
theorem dX7_statement_240 : decode cX7_statement 240 = .ok (.aload_n 0, 1) := qd3_77.1
theorem dX7_statement_241 : decode cX7_statement 241 = .ok (.aload_n 0, 1) := qd3_77.2.1
theorem dX7_statement_242 : decode cX7_statement 242 = .ok (.getfield 42, 3) := qd3_77.2.2.1
theorem dX7_statement_245 : decode cX7_statement 245 = .ok (.aload_n 0, 1) := qd3_77.2.2.2.1
theorem dX7_statement_246 : decode cX7_statement 246 = .ok (.getfield 58, 3) := qd3_77.2.2.2.2.1
theorem dX7_statement_249 : decode cX7_statement 249 = .ok (.iconst 0, 1) := qd3_77.2.2.2.2.2.1
theorem dX7_statement_250 : decode cX7_statement 250 = .ok (.iaload, 1) := qd3_77.2.2.2.2.2.2.1
theorem dX7_statement_251 : decode cX7_statement 251 = .ok (.iconst 0, 1) := qd3_77.2.2.2.2.2.2.2.1
theorem dX7_statement_252 : decode cX7_statement 252 = .ok (.bipush 99, 2) := qd3_77.2.2.2.2.2.2.2.2.1
theorem dX7_statement_254 : decode cX7_statement 254 = .ok (.invokevirtual 198, 3) := qd3_77.2.2.2.2.2.2.2.2.2.1
theorem dX7_statement_257 : decode cX7_statement 257 = .ok (.ifCond .eq 7, 3) := qd3_77.2.2.2.2.2.2.2.2.2.2.1
theorem dX7_statement_260 : decode cX7_statement 260 = .ok (.iconst 1, 1) := qd3_77.2.2.2.2.2.2.2.2.2.2.2
theorem qd3_78 : (decode cX7_statement 261 = .ok (.goto 4, 3)) ∧ (decode cX7_statement 264 = .ok (.iconst 0, 1)) ∧ (decode cX7_statement 265 = .ok (.ireturn, 1)) ∧ (decode cX7_statement 266 = .ok (.aload_n 0, 1)) ∧ (decode cX7_statement 267 = .ok (.ldc 229, 2)) ∧ (decode cX7_statement 269 = .ok (.invokevirtual 194, 3)) ∧ (decode cX7_statement 272 = .ok (.ifCond .eq 45, 3)) ∧ (decode cX7_statement 275 = .ok (.aload_n 0, 1)) ∧ (decode cX7_statement 276 = .ok (.ldc 229, 2)) ∧ (decode cX7_statement 278 = .ok (.aload_n 0, 1)) ∧ (decode cX7_statement 279 = .ok (.getfield 58, 3)) ∧ (decode cX7_statement 282 = .ok (.iconst 0, 1)) := by decide +kernel
theorem dX7_statement_261 : decode cX7_statement 261 = .ok (.goto 4, 3) := qd3_78.1
theorem dX7_statement_264 : decode cX7_statement 264 = .ok (.iconst 0, 1) := qd3_78.2.1
theorem dX7_statement_265 : decode cX7_statement 265 = .ok (.ireturn, 1) := qd3_78.2.2.1
theorem dX7_statement_266 : decode cX7_statement 266 = .ok (.aload_n 0, 1) := qd3_78.2.2.2.1
theorem dX7_statement_267 : decode cX7_statement 267 = .ok (.ldc 229, 2) := qd3_78.2.2.2.2.1
theorem dX7_statement_269 : decode cX7_statement 269 = .ok (.invokevirtual 194, 3) := qd3_78.2.2.2.2.2.1
theorem dX7_statement_272 : decode cX7_statement 272 = .ok (.ifCond .eq 45, 3) := qd3_78.2.2.2.2.2.2.1
theorem dX7_statement_275 : decode cX7_statement 275 = .ok (.aload_n 0, 1) := qd3_78.2.2.2.2.2.2.2.1
theorem dX7_statement_276 : decode cX7_statement 276 = .ok (.ldc 229, 2) := qd3_78.2.2.2.2.2.2.2.2.1
theorem dX7_statement_278 : decode cX7_statement 278 = .ok (.aload_n 0, 1) := qd3_78.2.2.2.2.2.2.2.2.2.1
theorem dX7_statement_279 : decode cX7_statement 279 = .ok (.getfield 58, 3) := qd3_78.2.2.2.2.2.2.2.2.2.2.1
theorem dX7_statement_282 : decode cX7_statement 282 = .ok (.iconst 0, 1) := qd3_78.2.2.2.2.2.2.2.2.2.2.2
theorem qd3_79 : (decode cX7_statement 283 = .ok (.iconst 0, 1)) ∧ (decode cX7_statement 284 = .ok (.iconst 2, 1)) ∧ (decode cX7_statement 285 = .ok (.invokevirtual 202, 3)) ∧ (decode cX7_statement 288 = .ok (.ifCond .eq 27, 3)) ∧ (decode cX7_statement 291 = .ok (.aload_n 0, 1)) ∧ (decode cX7_statement 292 = .ok (.aload_n 0, 1)) ∧ (decode cX7_statement 293 = .ok (.getfield 45, 3)) ∧ (decode cX7_statement 296 = .ok (.aload_n 0, 1)) ∧ (decode cX7_statement 297 = .ok (.getfield 58, 3)) ∧ (decode cX7_statement 300 = .ok (.iconst 0, 1)) ∧ (decode cX7_statement 301 = .ok (.iaload, 1)) ∧ (decode cX7_statement 302 = .ok (.iconst 0, 1)) := by decide +kernel
theorem dX7_statement_283 : decode cX7_statement 283 = .ok (.iconst 0, 1) := qd3_79.1
theorem dX7_statement_284 : decode cX7_statement 284 = .ok (.iconst 2, 1) := qd3_79.2.1
theorem dX7_statement_285 : decode cX7_statement 285 = .ok (.invokevirtual 202, 3) := qd3_79.2.2.1
theorem dX7_statement_288 : decode cX7_statement 288 = .ok (.ifCond .eq 27, 3) := qd3_79.2.2.2.1
theorem dX7_statement_291 : decode cX7_statement 291 = .ok (.aload_n 0, 1) := qd3_79.2.2.2.2.1
theorem dX7_statement_292 : decode cX7_statement 292 = .ok (.aload_n 0, 1) := qd3_79.2.2.2.2.2.1
theorem dX7_statement_293 : decode cX7_statement 293 = .ok (.getfield 45, 3) := qd3_79.2.2.2.2.2.2.1
theorem dX7_statement_296 : decode cX7_statement 296 = .ok (.aload_n 0, 1) := qd3_79.2.2.2.2.2.2.2.1
theorem dX7_statement_297 : decode cX7_statement 297 = .ok (.getfield 58, 3) := qd3_79.2.2.2.2.2.2.2.2.1
theorem dX7_statement_300 : decode cX7_statement 300 = .ok (.iconst 0, 1) := qd3_79.2.2.2.2.2.2.2.2.2.1
theorem dX7_statement_301 : decode cX7_statement 301 = .ok (.iaload, 1) := qd3_79.2.2.2.2.2.2.2.2.2.2.1
theorem dX7_statement_302 : decode cX7_statement 302 = .ok (.iconst 0, 1) := qd3_79.2.2.2.2.2.2.2.2.2.2.2
theorem qd3_80 : (decode cX7_statement 303 = .ok (.bipush 9, 2)) ∧ (decode cX7_statement 305 = .ok (.invokevirtual 198, 3)) ∧ (decode cX7_statement 308 = .ok (.ifCond .eq 7, 3)) ∧ (decode cX7_statement 311 = .ok (.iconst 1, 1)) ∧ (decode cX7_statement 312 = .ok (.goto 4, 3)) ∧ (decode cX7_statement 315 = .ok (.iconst 0, 1)) ∧ (decode cX7_statement 316 = .ok (.ireturn, 1)) ∧ (decode cX7_statement 317 = .ok (.aload_n 0, 1)) ∧ (decode cX7_statement 318 = .ok (.ldc 231, 2)) ∧ (decode cX7_statement 320 = .ok (.aload_n 0, 1)) ∧ (decode cX7_statement 321 = .ok (.getfield 58, 3)) ∧ (decode cX7_statement 324 = .ok (.iconst 0, 1)) := by decide +kernel
theorem dX7_statement_303 : decode cX7_statement 303 = .ok (.bipush 9, 2) := qd3_80.1
theorem dX7_statement_305 : decode cX7_statement 305 = .ok (.invokevirtual 198, 3) := qd3_80.2.1
theorem dX7_statement_308 : decode cX7_statement 308 = .ok (.ifCond .eq 7, 3) := qd3_80.2.2.1
theorem dX7_statement_311 : decode cX7_statement 311 = .ok (.iconst 1, 1) := qd3_80.2.2.2.1
theorem dX7_statement_312 : decode cX7_statement 312 = .ok (.goto 4, 3) := qd3_80.2.2.2.2.1
theorem dX7_statement_315 : decode cX7_statement 315 = .ok (.iconst 0, 1) := qd3_80.2.2.2.2.2.1
theorem dX7_statement_316 : decode cX7_statement 316 = .ok (.ireturn, 1) := qd3_80.2.2.2.2.2.2.1
theorem dX7_statement_317 : decode cX7_statement 317 = .ok (.aload_n 0, 1) := qd3_80.2.2.2.2.2.2.2.1
theorem dX7_statement_318 : decode cX7_statement 318 = .ok (.ldc 231, 2) := qd3_80.2.2.2.2.2.2.2.2.1
theorem dX7_statement_320 : decode cX7_statement 320 = .ok (.aload_n 0, 1) := qd3_80.2.2.2.2.2.2.2.2.2.1
theorem dX7_statement_321 : decode cX7_statement 321 = .ok (.getfield 58, 3) := qd3_80.2.2.2.2.2.2.2.2.2.2.1
theorem dX7_statement_324 : decode cX7_statement 324 = .ok (.iconst 0, 1) := qd3_80.2.2.2.2.2.2.2.2.2.2.2
theorem qd3_81 : (decode cX7_statement 325 = .ok (.iconst 1, 1)) ∧ (decode cX7_statement 326 = .ok (.bipush 30, 2)) ∧ (decode cX7_statement 328 = .ok (.invokevirtual 202, 3)) ∧ (decode cX7_statement 331 = .ok (.istore_n 1, 1)) ∧ (decode cX7_statement 332 = .ok (.aload_n 0, 1)) ∧ (decode cX7_statement 333 = .ok (.iload_n 1, 1)) ∧ (decode cX7_statement 334 = .ok (.ifCond .eq 12, 3)) ∧ (decode cX7_statement 337 = .ok (.aload_n 0, 1)) ∧ (decode cX7_statement 338 = .ok (.getfield 58, 3)) ∧ (decode cX7_statement 341 = .ok (.iconst 0, 1)) ∧ (decode cX7_statement 342 = .ok (.iaload, 1)) ∧ (decode cX7_statement 343 = .ok (.goto 7, 3)) := by decide +kernel
theorem dX7_statement_325 : decode cX7_statement 325 = .ok (.iconst 1, 1) := qd3_81.1
theorem dX7_statement_326 : decode cX7_statement 326 = .ok (.bipush 30, 2) := qd3_81.2.1
theorem dX7_statement_328 : decode cX7_statement 328 = .ok (.invokevirtual 202, 3) := qd3_81.2.2.1
theorem dX7_statement_331 : decode cX7_statement 331 = .ok (.istore_n 1, 1) := qd3_81.2.2.2.1
theorem dX7_statement_332 : decode cX7_statement 332 = .ok (.aload_n 0, 1) := qd3_81.2.2.2.2.1
theorem dX7_statement_333 : decode cX7_statement 333 = .ok (.iload_n 1, 1) := qd3_81.2.2.2.2.2.1
theorem dX7_statement_334 : decode cX7_statement 334 = .ok (.ifCond .eq 12, 3) := qd3_81.2.2.2.2.2.2.1
theorem dX7_statement_337 : decode cX7_statement 337 = .ok (.aload_n 0, 1) := qd3_81.2.2.2.2.2.2.2.1
theorem dX7_statement_338 : decode cX7_statement 338 = .ok (.getfield 58, 3) := qd3_81.2.2.2.2.2.2.2.2.1
theorem dX7_statement_341 : decode cX7_statement 341 = .ok (.iconst 0, 1) := qd3_81.2.2.2.2.2.2.2.2.2.1
theorem dX7_statement_342 : decode cX7_statement 342 = .ok (.iaload, 1) := qd3_81.2.2.2.2.2.2.2.2.2.2.1
theorem dX7_statement_343 : decode cX7_statement 343 = .ok (.goto 7, 3) := qd3_81.2.2.2.2.2.2.2.2.2.2.2
theorem qd3_82 : (decode cX7_statement 346 = .ok (.aload_n 0, 1)) ∧ (decode cX7_statement 347 = .ok (.getfield 54, 3)) ∧ (decode cX7_statement 350 = .ok (.putfield 54, 3)) ∧ (decode cX7_statement 353 = .ok (.iload_n 1, 1)) ∧ (decode cX7_statement 354 = .ok (.ireturn, 1)) := by decide +kernel
theorem dX7_statement_346 : decode cX7_statement 346 = .ok (.aload_n 0, 1) := qd3_82.1
theorem dX7_statement_347 : decode cX7_statement 347 = .ok (.getfield 54, 3) := qd3_82.2.1
theorem dX7_statement_350 : decode cX7_statement 350 = .ok (.putfield 54, 3) := qd3_82.2.2.1
theorem dX7_statement_353 : decode cX7_statement 353 = .ok (.iload_n 1, 1) := qd3_82.2.2.2.1
theorem dX7_statement_354 : decode cX7_statement 354 = .ok (.ireturn, 1) := qd3_82.2.2.2.2
theorem qd3_83 : (decode cX7_workTold 0 = .ok (.aload_n 1, 1)) ∧ (decode cX7_workTold 1 = .ok (.iconst 4, 1)) ∧ (decode cX7_workTold 2 = .ok (.iconst 0, 1)) ∧ (decode cX7_workTold 3 = .ok (.iastore, 1)) ∧ (decode cX7_workTold 4 = .ok (.aload_n 0, 1)) ∧ (decode cX7_workTold 5 = .ok (.ldc 223, 2)) ∧ (decode cX7_workTold 7 = .ok (.aload_n 1, 1)) ∧ (decode cX7_workTold 8 = .ok (.iconst 0, 1)) ∧ (decode cX7_workTold 9 = .ok (.iconst 1, 1)) ∧ (decode cX7_workTold 10 = .ok (.iconst 5, 1)) ∧ (decode cX7_workTold 11 = .ok (.invokevirtual 202, 3)) ∧ (decode cX7_workTold 14 = .ok (.ifCond .ne 5, 3)) := by decide +kernel
theorem dX7_workTold_0 : decode cX7_workTold 0 = .ok (.aload_n 1, 1) := qd3_83.1
theorem dX7_workTold_1 : decode cX7_workTold 1 = .ok (.iconst 4, 1) := qd3_83.2.1
theorem dX7_workTold_2 : decode cX7_workTold 2 = .ok (.iconst 0, 1) := qd3_83.2.2.1
theorem dX7_workTold_3 : decode cX7_workTold 3 = .ok (.iastore, 1) := qd3_83.2.2.2.1
theorem dX7_workTold_4 : decode cX7_workTold 4 = .ok (.aload_n 0, 1) := qd3_83.2.2.2.2.1
theorem dX7_workTold_5 : decode cX7_workTold 5 = .ok (.ldc 223, 2) := qd3_83.2.2.2.2.2.1
theorem dX7_workTold_7 : decode cX7_workTold 7 = .ok (.aload_n 1, 1) := qd3_83.2.2.2.2.2.2.1
theorem dX7_workTold_8 : decode cX7_workTold 8 = .ok (.iconst 0, 1) := qd3_83.2.2.2.2.2.2.2.1
theorem dX7_workTold_9 : decode cX7_workTold 9 = .ok (.iconst 1, 1) := qd3_83.2.2.2.2.2.2.2.2.1
theorem dX7_workTold_10 : decode cX7_workTold 10 = .ok (.iconst 5, 1) := qd3_83.2.2.2.2.2.2.2.2.2.1
theorem dX7_workTold_11 : decode cX7_workTold 11 = .ok (.invokevirtual 202, 3) := qd3_83.2.2.2.2.2.2.2.2.2.2.1
theorem dX7_workTold_14 : decode cX7_workTold 14 = .ok (.ifCond .ne 5, 3) := qd3_83.2.2.2.2.2.2.2.2.2.2.2
theorem qd3_84 : (decode cX7_workTold 17 = .ok (.iconst 0, 1)) ∧ (decode cX7_workTold 18 = .ok (.ireturn, 1)) ∧ (decode cX7_workTold 19 = .ok (.aload_n 0, 1)) ∧ (decode cX7_workTold 20 = .ok (.getfield 159, 3)) ∧ (decode cX7_workTold 23 = .ok (.iconst 2, 1)) ∧ (decode cX7_workTold 24 = .ok (.if_icmp .ne 32, 3)) ∧ (decode cX7_workTold 27 = .ok (.aload_n 0, 1)) ∧ (decode cX7_workTold 28 = .ok (.getfield 155, 3)) ∧ (decode cX7_workTold 31 = .ok (.lconst 0, 1)) ∧ (decode cX7_workTold 32 = .ok (.ldc2_w 123, 3)) ∧ (decode cX7_workTold 35 = .ok (.invokestatic 78, 3)) ∧ (decode cX7_workTold 38 = .ok (.ifCond .eq 18, 3)) := by decide +kernel
theorem dX7_workTold_17 : decode cX7_workTold 17 = .ok (.iconst 0, 1) := qd3_84.1
theorem dX7_workTold_18 : decode cX7_workTold 18 = .ok (.ireturn, 1) := qd3_84.2.1
theorem dX7_workTold_19 : decode cX7_workTold 19 = .ok (.aload_n 0, 1) := qd3_84.2.2.1
theorem dX7_workTold_20 : decode cX7_workTold 20 = .ok (.getfield 159, 3) := qd3_84.2.2.2.1
theorem dX7_workTold_23 : decode cX7_workTold 23 = .ok (.iconst 2, 1) := qd3_84.2.2.2.2.1
theorem dX7_workTold_24 : decode cX7_workTold 24 = .ok (.if_icmp .ne 32, 3) := qd3_84.2.2.2.2.2.1
theorem dX7_workTold_27 : decode cX7_workTold 27 = .ok (.aload_n 0, 1) := qd3_84.2.2.2.2.2.2.1
theorem dX7_workTold_28 : decode cX7_workTold 28 = .ok (.getfield 155, 3) := qd3_84.2.2.2.2.2.2.2.1
theorem dX7_workTold_31 : decode cX7_workTold 31 = .ok (.lconst 0, 1) := qd3_84.2.2.2.2.2.2.2.2.1
theorem dX7_workTold_32 : decode cX7_workTold 32 = .ok (.ldc2_w 123, 3) := qd3_84.2.2.2.2.2.2.2.2.2.1
theorem dX7_workTold_35 : decode cX7_workTold 35 = .ok (.invokestatic 78, 3) := qd3_84.2.2.2.2.2.2.2.2.2.2.1
theorem dX7_workTold_38 : decode cX7_workTold 38 = .ok (.ifCond .eq 18, 3) := qd3_84.2.2.2.2.2.2.2.2.2.2.2
theorem qd3_85 : (decode cX7_workTold 41 = .ok (.aload_n 0, 1)) ∧ (decode cX7_workTold 42 = .ok (.aload_n 1, 1)) ∧ (decode cX7_workTold 43 = .ok (.iconst 0, 1)) ∧ (decode cX7_workTold 44 = .ok (.iaload, 1)) ∧ (decode cX7_workTold 45 = .ok (.aload_n 0, 1)) ∧ (decode cX7_workTold 46 = .ok (.getfield 155, 3)) ∧ (decode cX7_workTold 49 = .ok (.l2i, 1)) ∧ (decode cX7_workTold 50 = .ok (.invokevirtual 133, 3)) ∧ (decode cX7_workTold 53 = .ok (.ifCond .ne 8, 3)) ∧ (decode cX7_workTold 56 = .ok (.aload_n 0, 1)) ∧ (decode cX7_workTold 57 = .ok (.invokevirtual 187, 3)) ∧ (decode cX7_workTold 60 = .ok (.ireturn, 1)) := by decide +kernel
theorem dX7_workTold_41 : decode cX7_workTold 41 = .ok (.aload_n 0, 1) := qd3_85.1
theorem dX7_workTold_42 : decode cX7_workTold 42 = .ok (.aload_n 1, 1) := qd3_85.2.1
theorem dX7_workTold_43 : decode cX7_workTold 43 = .ok (.iconst 0, 1) := qd3_85.2.2.1
theorem dX7_workTold_44 : decode cX7_workTold 44 = .ok (.iaload, 1) := qd3_85.2.2.2.1
theorem dX7_workTold_45 : decode cX7_workTold 45 = .ok (.aload_n 0, 1) := qd3_85.2.2.2.2.1
theorem dX7_workTold_46 : decode cX7_workTold 46 = .ok (.getfield 155, 3) := qd3_85.2.2.2.2.2.1
theorem dX7_workTold_49 : decode cX7_workTold 49 = .ok (.l2i, 1) := qd3_85.2.2.2.2.2.2.1
theorem dX7_workTold_50 : decode cX7_workTold 50 = .ok (.invokevirtual 133, 3) := qd3_85.2.2.2.2.2.2.2.1
theorem dX7_workTold_53 : decode cX7_workTold 53 = .ok (.ifCond .ne 8, 3) := qd3_85.2.2.2.2.2.2.2.2.1
theorem dX7_workTold_56 : decode cX7_workTold 56 = .ok (.aload_n 0, 1) := qd3_85.2.2.2.2.2.2.2.2.2.1
theorem dX7_workTold_57 : decode cX7_workTold 57 = .ok (.invokevirtual 187, 3) := qd3_85.2.2.2.2.2.2.2.2.2.2.1
theorem dX7_workTold_60 : decode cX7_workTold 60 = .ok (.ireturn, 1) := qd3_85.2.2.2.2.2.2.2.2.2.2.2
theorem qd3_86 : (decode cX7_workTold 61 = .ok (.aload_n 0, 1)) ∧ (decode cX7_workTold 62 = .ok (.aload_n 1, 1)) ∧ (decode cX7_workTold 63 = .ok (.iconst 1, 1)) ∧ (decode cX7_workTold 64 = .ok (.iconst 0, 1)) ∧ (decode cX7_workTold 65 = .ok (.bipush 99, 2)) ∧ (decode cX7_workTold 67 = .ok (.invokevirtual 198, 3)) ∧ (decode cX7_workTold 70 = .ok (.pop, 1)) ∧ (decode cX7_workTold 71 = .ok (.aload_n 0, 1)) ∧ (decode cX7_workTold 72 = .ok (.getfield 159, 3)) ∧ (decode cX7_workTold 75 = .ok (.iconst 2, 1)) ∧ (decode cX7_workTold 76 = .ok (.if_icmp .ne 35, 3)) ∧ (decode cX7_workTold 79 = .ok (.aload_n 0, 1)) := by decide +kernel
theorem dX7_workTold_61 : decode cX7_workTold 61 = .ok (.aload_n 0, 1) := qd3_86.1
theorem dX7_workTold_62 : decode cX7_workTold 62 = .ok (.aload_n 1, 1) := qd3_86.2.1
theorem dX7_workTold_63 : decode cX7_workTold 63 = .ok (.iconst 1, 1) := qd3_86.2.2.1
theorem dX7_workTold_64 : decode cX7_workTold 64 = .ok (.iconst 0, 1) := qd3_86.2.2.2.1
theorem dX7_workTold_65 : decode cX7_workTold 65 = .ok (.bipush 99, 2) := qd3_86.2.2.2.2.1
theorem dX7_workTold_67 : decode cX7_workTold 67 = .ok (.invokevirtual 198, 3) := qd3_86.2.2.2.2.2.1
theorem dX7_workTold_70 : decode cX7_workTold 70 = .ok (.pop, 1) := qd3_86.2.2.2.2.2.2.1
theorem dX7_workTold_71 : decode cX7_workTold 71 = .ok (.aload_n 0, 1) := qd3_86.2.2.2.2.2.2.2.1
theorem dX7_workTold_72 : decode cX7_workTold 72 = .ok (.getfield 159, 3) := qd3_86.2.2.2.2.2.2.2.2.1
theorem dX7_workTold_75 : decode cX7_workTold 75 = .ok (.iconst 2, 1) := qd3_86.2.2.2.2.2.2.2.2.2.1
theorem dX7_workTold_76 : decode cX7_workTold 76 = .ok (.if_icmp .ne 35, 3) := qd3_86.2.2.2.2.2.2.2.2.2.2.1
theorem dX7_workTold_79 : decode cX7_workTold 79 = .ok (.aload_n 0, 1) := qd3_86.2.2.2.2.2.2.2.2.2.2.2
theorem qd3_87 : (decode cX7_workTold 80 = .ok (.getfield 155, 3)) ∧ (decode cX7_workTold 83 = .ok (.lconst 0, 1)) ∧ (decode cX7_workTold 84 = .ok (.ldc2_w 123, 3)) ∧ (decode cX7_workTold 87 = .ok (.invokestatic 78, 3)) ∧ (decode cX7_workTold 90 = .ok (.ifCond .eq 21, 3)) ∧ (decode cX7_workTold 93 = .ok (.aload_n 0, 1)) ∧ (decode cX7_workTold 94 = .ok (.aload_n 1, 1)) ∧ (decode cX7_workTold 95 = .ok (.iconst 0, 1)) ∧ (decode cX7_workTold 96 = .ok (.iaload, 1)) ∧ (decode cX7_workTold 97 = .ok (.aload_n 1, 1)) ∧ (decode cX7_workTold 98 = .ok (.iconst 1, 1)) ∧ (decode cX7_workTold 99 = .ok (.iaload, 1)) := by decide +kernel
theorem dX7_workTold_80 : decode cX7_workTold 80 = .ok (.getfield 155, 3) := qd3_87.1
theorem dX7_workTold_83 : decode cX7_workTold 83 = .ok (.lconst 0, 1) := qd3_87.2.1
theorem dX7_workTold_84 : decode cX7_workTold 84 = .ok (.ldc2_w 123, 3) := qd3_87.2.2.1
theorem dX7_workTold_87 : decode cX7_workTold 87 = .ok (.invokestatic 78, 3) := qd3_87.2.2.2.1
theorem dX7_workTold_90 : decode cX7_workTold 90 = .ok (.ifCond .eq 21, 3) := qd3_87.2.2.2.2.1
theorem dX7_workTold_93 : decode cX7_workTold 93 = .ok (.aload_n 0, 1) := qd3_87.2.2.2.2.2.1
theorem dX7_workTold_94 : decode cX7_workTold 94 = .ok (.aload_n 1, 1) := qd3_87.2.2.2.2.2.2.1
theorem dX7_workTold_95 : decode cX7_workTold 95 = .ok (.iconst 0, 1) := qd3_87.2.2.2.2.2.2.2.1
theorem dX7_workTold_96 : decode cX7_workTold 96 = .ok (.iaload, 1) := qd3_87.2.2.2.2.2.2.2.2.1
theorem dX7_workTold_97 : decode cX7_workTold 97 = .ok (.aload_n 1, 1) := qd3_87.2.2.2.2.2.2.2.2.2.1
theorem dX7_workTold_98 : decode cX7_workTold 98 = .ok (.iconst 1, 1) := qd3_87.2.2.2.2.2.2.2.2.2.2.1
theorem dX7_workTold_99 : decode cX7_workTold 99 = .ok (.iaload, 1) := qd3_87.2.2.2.2.2.2.2.2.2.2.2
theorem qd3_88 : (decode cX7_workTold 100 = .ok (.aload_n 0, 1)) ∧ (decode cX7_workTold 101 = .ok (.getfield 155, 3)) ∧ (decode cX7_workTold 104 = .ok (.l2i, 1)) ∧ (decode cX7_workTold 105 = .ok (.invokevirtual 136, 3)) ∧ (decode cX7_workTold 108 = .ok (.ifCond .ne 8, 3)) ∧ (decode cX7_workTold 111 = .ok (.aload_n 0, 1)) ∧ (decode cX7_workTold 112 = .ok (.invokevirtual 187, 3)) ∧ (decode cX7_workTold 115 = .ok (.ireturn, 1)) ∧ (decode cX7_workTold 116 = .ok (.aload_n 0, 1)) ∧ (decode cX7_workTold 117 = .ok (.aload_n 1, 1)) ∧ (decode cX7_workTold 118 = .ok (.iconst 2, 1)) ∧ (decode cX7_workTold 119 = .ok (.iconst 0, 1)) := by decide +kernel
theorem dX7_workTold_100 : decode cX7_workTold 100 = .ok (.aload_n 0, 1) := qd3_88.1
theorem dX7_workTold_101 : decode cX7_workTold 101 = .ok (.getfield 155, 3) := qd3_88.2.1
theorem dX7_workTold_104 : decode cX7_workTold 104 = .ok (.l2i, 1) := qd3_88.2.2.1
theorem dX7_workTold_105 : decode cX7_workTold 105 = .ok (.invokevirtual 136, 3) := qd3_88.2.2.2.1
theorem dX7_workTold_108 : decode cX7_workTold 108 = .ok (.ifCond .ne 8, 3) := qd3_88.2.2.2.2.1
theorem dX7_workTold_111 : decode cX7_workTold 111 = .ok (.aload_n 0, 1) := qd3_88.2.2.2.2.2.1
theorem dX7_workTold_112 : decode cX7_workTold 112 = .ok (.invokevirtual 187, 3) := qd3_88.2.2.2.2.2.2.1
theorem dX7_workTold_115 : decode cX7_workTold 115 = .ok (.ireturn, 1) := qd3_88.2.2.2.2.2.2.2.1
theorem dX7_workTold_116 : decode cX7_workTold 116 = .ok (.aload_n 0, 1) := qd3_88.2.2.2.2.2.2.2.2.1
theorem dX7_workTold_117 : decode cX7_workTold 117 = .ok (.aload_n 1, 1) := qd3_88.2.2.2.2.2.2.2.2.2.1
theorem dX7_workTold_118 : decode cX7_workTold 118 = .ok (.iconst 2, 1) := qd3_88.2.2.2.2.2.2.2.2.2.2.1
theorem dX7_workTold_119 : decode cX7_workTold 119 = .ok (.iconst 0, 1) := qd3_88.2.2.2.2.2.2.2.2.2.2.2
theorem qd3_89 : (decode cX7_workTold 120 = .ok (.bipush 99, 2)) ∧ (decode cX7_workTold 122 = .ok (.invokevirtual 198, 3)) ∧ (decode cX7_workTold 125 = .ok (.pop, 1)) ∧ (decode cX7_workTold 126 = .ok (.aload_n 0, 1)) ∧ (decode cX7_workTold 127 = .ok (.aload_n 1, 1)) ∧ (decode cX7_workTold 128 = .ok (.iconst 3, 1)) ∧ (decode cX7_workTold 129 = .ok (.iconst 0, 1)) ∧ (decode cX7_workTold 130 = .ok (.sipush 999, 3)) ∧ (decode cX7_workTold 133 = .ok (.invokevirtual 198, 3)) ∧ (decode cX7_workTold 136 = .ok (.ifCond .ne 5, 3)) ∧ (decode cX7_workTold 139 = .ok (.iconst 0, 1)) ∧ (decode cX7_workTold 140 = .ok (.ireturn, 1)) := by decide +kernel
theorem dX7_workTold_120 : decode cX7_workTold 120 = .ok (.bipush 99, 2) := qd3_89.1
theorem dX7_workTold_122 : decode cX7_workTold 122 = .ok (.invokevirtual 198, 3) := qd3_89.2.1
theorem dX7_workTold_125 : decode cX7_workTold 125 = .ok (.pop, 1) := qd3_89.2.2.1
theorem dX7_workTold_126 : decode cX7_workTold 126 = .ok (.aload_n 0, 1) := qd3_89.2.2.2.1
theorem dX7_workTold_127 : decode cX7_workTold 127 = .ok (.aload_n 1, 1) := qd3_89.2.2.2.2.1
theorem dX7_workTold_128 : decode cX7_workTold 128 = .ok (.iconst 3, 1) := qd3_89.2.2.2.2.2.1
theorem dX7_workTold_129 : decode cX7_workTold 129 = .ok (.iconst 0, 1) := qd3_89.2.2.2.2.2.2.1
theorem dX7_workTold_130 : decode cX7_workTold 130 = .ok (.sipush 999, 3) := qd3_89.2.2.2.2.2.2.2.1
theorem dX7_workTold_133 : decode cX7_workTold 133 = .ok (.invokevirtual 198, 3) := qd3_89.2.2.2.2.2.2.2.2.1
theorem dX7_workTold_136 : decode cX7_workTold 136 = .ok (.ifCond .ne 5, 3) := qd3_89.2.2.2.2.2.2.2.2.2.1
theorem dX7_workTold_139 : decode cX7_workTold 139 = .ok (.iconst 0, 1) := qd3_89.2.2.2.2.2.2.2.2.2.2.1
theorem dX7_workTold_140 : decode cX7_workTold 140 = .ok (.ireturn, 1) := qd3_89.2.2.2.2.2.2.2.2.2.2.2
theorem qd3_90 : (decode cX7_workTold 141 = .ok (.aload_n 0, 1)) ∧ (decode cX7_workTold 142 = .ok (.dup, 1)) ∧ (decode cX7_workTold 143 = .ok (.getfield 85, 3)) ∧ (decode cX7_workTold 146 = .ok (.iconst 1, 1)) ∧ (decode cX7_workTold 147 = .ok (.iadd, 1)) ∧ (decode cX7_workTold 148 = .ok (.putfield 85, 3)) ∧ (decode cX7_workTold 151 = .ok (.iconst 1, 1)) ∧ (decode cX7_workTold 152 = .ok (.ireturn, 1)) := by decide +kernel
theorem dX7_workTold_141 : decode cX7_workTold 141 = .ok (.aload_n 0, 1) := qd3_90.1
theorem dX7_workTold_142 : decode cX7_workTold 142 = .ok (.dup, 1) := qd3_90.2.1
theorem dX7_workTold_143 : decode cX7_workTold 143 = .ok (.getfield 85, 3) := qd3_90.2.2.1
theorem dX7_workTold_146 : decode cX7_workTold 146 = .ok (.iconst 1, 1) := qd3_90.2.2.2.1
theorem dX7_workTold_147 : decode cX7_workTold 147 = .ok (.iadd, 1) := qd3_90.2.2.2.2.1
theorem dX7_workTold_148 : decode cX7_workTold 148 = .ok (.putfield 85, 3) := qd3_90.2.2.2.2.2.1
theorem dX7_workTold_151 : decode cX7_workTold 151 = .ok (.iconst 1, 1) := qd3_90.2.2.2.2.2.2.1
theorem dX7_workTold_152 : decode cX7_workTold 152 = .ok (.ireturn, 1) := qd3_90.2.2.2.2.2.2.2
theorem qd3_91 : (decode cX7_read 0 = .ok (.aload_n 0, 1)) ∧ (decode cX7_read 1 = .ok (.iconst 1, 1)) ∧ (decode cX7_read 2 = .ok (.putfield 232, 3)) ∧ (decode cX7_read 5 = .ok (.aload_n 0, 1)) ∧ (decode cX7_read 6 = .ok (.iconst 0, 1)) ∧ (decode cX7_read 7 = .ok (.putfield 149, 3)) ∧ (decode cX7_read 10 = .ok (.aload_n 0, 1)) ∧ (decode cX7_read 11 = .ok (.invokevirtual 191, 3)) ∧ (decode cX7_read 14 = .ok (.aload_n 0, 1)) ∧ (decode cX7_read 15 = .ok (.invokevirtual 235, 3)) ∧ (decode cX7_read 18 = .ok (.ifCond .ne 5, 3)) ∧ (decode cX7_read 21 = .ok (.iconst 0, 1)) := by decide +kernel
theorem dX7_read_0 : decode cX7_read 0 = .ok (.aload_n 0, 1) := qd3_91.1
theorem dX7_read_1 : decode cX7_read 1 = .ok (.iconst 1, 1) := qd3_91.2.1
theorem dX7_read_2 : decode cX7_read 2 = .ok (.putfield 232, 3) := qd3_91.2.2.1
theorem dX7_read_5 : decode cX7_read 5 = .ok (.aload_n 0, 1) := qd3_91.2.2.2.1
theorem dX7_read_6 : decode cX7_read 6 = .ok (.iconst 0, 1) := qd3_91.2.2.2.2.1
theorem dX7_read_7 : decode cX7_read 7 = .ok (.putfield 149, 3) := qd3_91.2.2.2.2.2.1
theorem dX7_read_10 : decode cX7_read 10 = .ok (.aload_n 0, 1) := qd3_91.2.2.2.2.2.2.1
theorem dX7_read_11 : decode cX7_read 11 = .ok (.invokevirtual 191, 3) := qd3_91.2.2.2.2.2.2.2.1
theorem dX7_read_14 : decode cX7_read 14 = .ok (.aload_n 0, 1) := qd3_91.2.2.2.2.2.2.2.2.1
theorem dX7_read_15 : decode cX7_read 15 = .ok (.invokevirtual 235, 3) := qd3_91.2.2.2.2.2.2.2.2.2.1
theorem dX7_read_18 : decode cX7_read 18 = .ok (.ifCond .ne 5, 3) := qd3_91.2.2.2.2.2.2.2.2.2.2.1
theorem dX7_read_21 : decode cX7_read 21 = .ok (.iconst 0, 1) := qd3_91.2.2.2.2.2.2.2.2.2.2.2
theorem qd3_92 : (decode cX7_read 22 = .ok (.ireturn, 1)) ∧ (decode cX7_read 23 = .ok (.aload_n 0, 1)) ∧ (decode cX7_read 24 = .ok (.getfield 159, 3)) ∧ (decode cX7_read 27 = .ok (.ifCond .eq 42, 3)) ∧ (decode cX7_read 30 = .ok (.aload_n 0, 1)) ∧ (decode cX7_read 31 = .ok (.getfield 159, 3)) ∧ (decode cX7_read 34 = .ok (.iconst 3, 1)) ∧ (decode cX7_read 35 = .ok (.if_icmp .eq 8, 3)) ∧ (decode cX7_read 38 = .ok (.aload_n 0, 1)) ∧ (decode cX7_read 39 = .ok (.invokevirtual 187, 3)) ∧ (decode cX7_read 42 = .ok (.ireturn, 1)) ∧ (decode cX7_read 43 = .ok (.aload_n 0, 1)) := by decide +kernel
theorem dX7_read_22 : decode cX7_read 22 = .ok (.ireturn, 1) := qd3_92.1
theorem dX7_read_23 : decode cX7_read 23 = .ok (.aload_n 0, 1) := qd3_92.2.1
theorem dX7_read_24 : decode cX7_read 24 = .ok (.getfield 159, 3) := qd3_92.2.2.1
theorem dX7_read_27 : decode cX7_read 27 = .ok (.ifCond .eq 42, 3) := qd3_92.2.2.2.1
theorem dX7_read_30 : decode cX7_read 30 = .ok (.aload_n 0, 1) := qd3_92.2.2.2.2.1
theorem dX7_read_31 : decode cX7_read 31 = .ok (.getfield 159, 3) := qd3_92.2.2.2.2.2.1
theorem dX7_read_34 : decode cX7_read 34 = .ok (.iconst 3, 1) := qd3_92.2.2.2.2.2.2.1
theorem dX7_read_35 : decode cX7_read 35 = .ok (.if_icmp .eq 8, 3) := qd3_92.2.2.2.2.2.2.2.1
theorem dX7_read_38 : decode cX7_read 38 = .ok (.aload_n 0, 1) := qd3_92.2.2.2.2.2.2.2.2.1
theorem dX7_read_39 : decode cX7_read 39 = .ok (.invokevirtual 187, 3) := qd3_92.2.2.2.2.2.2.2.2.2.1
theorem dX7_read_42 : decode cX7_read 42 = .ok (.ireturn, 1) := qd3_92.2.2.2.2.2.2.2.2.2.2.1
theorem dX7_read_43 : decode cX7_read 43 = .ok (.aload_n 0, 1) := qd3_92.2.2.2.2.2.2.2.2.2.2.2
theorem qd3_93 : (decode cX7_read 44 = .ok (.invokevirtual 191, 3)) ∧ (decode cX7_read 47 = .ok (.aload_n 0, 1)) ∧ (decode cX7_read 48 = .ok (.invokevirtual 235, 3)) ∧ (decode cX7_read 51 = .ok (.ifCond .ne 5, 3)) ∧ (decode cX7_read 54 = .ok (.iconst 0, 1)) ∧ (decode cX7_read 55 = .ok (.ireturn, 1)) ∧ (decode cX7_read 56 = .ok (.aload_n 0, 1)) ∧ (decode cX7_read 57 = .ok (.dup, 1)) ∧ (decode cX7_read 58 = .ok (.getfield 232, 3)) ∧ (decode cX7_read 61 = .ok (.iconst 1, 1)) ∧ (decode cX7_read 62 = .ok (.iadd, 1)) ∧ (decode cX7_read 63 = .ok (.putfield 232, 3)) := by decide +kernel
theorem dX7_read_44 : decode cX7_read 44 = .ok (.invokevirtual 191, 3) := qd3_93.1
theorem dX7_read_47 : decode cX7_read 47 = .ok (.aload_n 0, 1) := qd3_93.2.1
theorem dX7_read_48 : decode cX7_read 48 = .ok (.invokevirtual 235, 3) := qd3_93.2.2.1
theorem dX7_read_51 : decode cX7_read 51 = .ok (.ifCond .ne 5, 3) := qd3_93.2.2.2.1
theorem dX7_read_54 : decode cX7_read 54 = .ok (.iconst 0, 1) := qd3_93.2.2.2.2.1
theorem dX7_read_55 : decode cX7_read 55 = .ok (.ireturn, 1) := qd3_93.2.2.2.2.2.1
theorem dX7_read_56 : decode cX7_read 56 = .ok (.aload_n 0, 1) := qd3_93.2.2.2.2.2.2.1
theorem dX7_read_57 : decode cX7_read 57 = .ok (.dup, 1) := qd3_93.2.2.2.2.2.2.2.1
theorem dX7_read_58 : decode cX7_read 58 = .ok (.getfield 232, 3) := qd3_93.2.2.2.2.2.2.2.2.1
theorem dX7_read_61 : decode cX7_read 61 = .ok (.iconst 1, 1) := qd3_93.2.2.2.2.2.2.2.2.2.1
theorem dX7_read_62 : decode cX7_read 62 = .ok (.iadd, 1) := qd3_93.2.2.2.2.2.2.2.2.2.2.1
theorem dX7_read_63 : decode cX7_read 63 = .ok (.putfield 232, 3) := qd3_93.2.2.2.2.2.2.2.2.2.2.2
theorem qd3_94 : (decode cX7_read 66 = .ok (.goto (-43), 3)) ∧ (decode cX7_read 69 = .ok (.iconst 1, 1)) ∧ (decode cX7_read 70 = .ok (.ireturn, 1)) := by decide +kernel
theorem dX7_read_66 : decode cX7_read 66 = .ok (.goto (-43), 3) := qd3_94.1
theorem dX7_read_69 : decode cX7_read 69 = .ok (.iconst 1, 1) := qd3_94.2.1
theorem dX7_read_70 : decode cX7_read 70 = .ok (.ireturn, 1) := qd3_94.2.2
theorem qd3_95 : (decode cX7_land 0 = .ok (.aload_n 0, 1)) ∧ (decode cX7_land 1 = .ok (.invokevirtual 238, 3)) ∧ (decode cX7_land 4 = .ok (.astore_n 1, 1)) ∧ (decode cX7_land 5 = .ok (.aload_n 0, 1)) ∧ (decode cX7_land 6 = .ok (.invokevirtual 242, 3)) ∧ (decode cX7_land 9 = .ok (.istore_n 2, 1)) ∧ (decode cX7_land 10 = .ok (.aload_n 0, 1)) ∧ (decode cX7_land 11 = .ok (.iconst 0, 1)) ∧ (decode cX7_land 12 = .ok (.putfield 146, 3)) ∧ (decode cX7_land 15 = .ok (.iload_n 2, 1)) ∧ (decode cX7_land 16 = .ok (.ifCond .ne 23, 3)) ∧ (decode cX7_land 19 = .ok (.aload_n 0, 1)) := by decide +kernel
theorem dX7_land_0 : decode cX7_land 0 = .ok (.aload_n 0, 1) := qd3_95.1
theorem dX7_land_1 : decode cX7_land 1 = .ok (.invokevirtual 238, 3) := qd3_95.2.1
theorem dX7_land_4 : decode cX7_land 4 = .ok (.astore_n 1, 1) := qd3_95.2.2.1
theorem dX7_land_5 : decode cX7_land 5 = .ok (.aload_n 0, 1) := qd3_95.2.2.2.1
theorem dX7_land_6 : decode cX7_land 6 = .ok (.invokevirtual 242, 3) := qd3_95.2.2.2.2.1
theorem dX7_land_9 : decode cX7_land 9 = .ok (.istore_n 2, 1) := qd3_95.2.2.2.2.2.1
theorem dX7_land_10 : decode cX7_land 10 = .ok (.aload_n 0, 1) := qd3_95.2.2.2.2.2.2.1
theorem dX7_land_11 : decode cX7_land 11 = .ok (.iconst 0, 1) := qd3_95.2.2.2.2.2.2.2.1
theorem dX7_land_12 : decode cX7_land 12 = .ok (.putfield 146, 3) := qd3_95.2.2.2.2.2.2.2.2.1
theorem dX7_land_15 : decode cX7_land 15 = .ok (.iload_n 2, 1) := qd3_95.2.2.2.2.2.2.2.2.2.1
theorem dX7_land_16 : decode cX7_land 16 = .ok (.ifCond .ne 23, 3) := qd3_95.2.2.2.2.2.2.2.2.2.2.1
theorem dX7_land_19 : decode cX7_land 19 = .ok (.aload_n 0, 1) := qd3_95.2.2.2.2.2.2.2.2.2.2.2
theorem qd3_96 : (decode cX7_land 20 = .ok (.aload_n 1, 1)) ∧ (decode cX7_land 21 = .ok (.invokevirtual 245, 3)) ∧ (decode cX7_land 24 = .ok (.aload_n 0, 1)) ∧ (decode cX7_land 25 = .ok (.bipush (-2), 2)) ∧ (decode cX7_land 27 = .ok (.invokevirtual 94, 3)) ∧ (decode cX7_land 30 = .ok (.pop, 1)) ∧ (decode cX7_land 31 = .ok (.bipush (-20), 2)) ∧ (decode cX7_land 33 = .ok (.aload_n 0, 1)) ∧ (decode cX7_land 34 = .ok (.getfield 174, 3)) ∧ (decode cX7_land 37 = .ok (.isub, 1)) ∧ (decode cX7_land 38 = .ok (.ireturn, 1)) ∧ (decode cX7_land 39 = .ok (.aload_n 0, 1)) := by decide +kernel
theorem dX7_land_20 : decode cX7_land 20 = .ok (.aload_n 1, 1) := qd3_96.1
theorem dX7_land_21 : decode cX7_land 21 = .ok (.invokevirtual 245, 3) := qd3_96.2.1
theorem dX7_land_24 : decode cX7_land 24 = .ok (.aload_n 0, 1) := qd3_96.2.2.1
theorem dX7_land_25 : decode cX7_land 25 = .ok (.bipush (-2), 2) := qd3_96.2.2.2.1
theorem dX7_land_27 : decode cX7_land 27 = .ok (.invokevirtual 94, 3) := qd3_96.2.2.2.2.1
theorem dX7_land_30 : decode cX7_land 30 = .ok (.pop, 1) := qd3_96.2.2.2.2.2.1
theorem dX7_land_31 : decode cX7_land 31 = .ok (.bipush (-20), 2) := qd3_96.2.2.2.2.2.2.1
theorem dX7_land_33 : decode cX7_land 33 = .ok (.aload_n 0, 1) := qd3_96.2.2.2.2.2.2.2.1
theorem dX7_land_34 : decode cX7_land 34 = .ok (.getfield 174, 3) := qd3_96.2.2.2.2.2.2.2.2.1
theorem dX7_land_37 : decode cX7_land 37 = .ok (.isub, 1) := qd3_96.2.2.2.2.2.2.2.2.2.1
theorem dX7_land_38 : decode cX7_land 38 = .ok (.ireturn, 1) := qd3_96.2.2.2.2.2.2.2.2.2.2.1
theorem dX7_land_39 : decode cX7_land 39 = .ok (.aload_n 0, 1) := qd3_96.2.2.2.2.2.2.2.2.2.2.2
theorem qd3_97 : (decode cX7_land 40 = .ok (.getfield 232, 3)) ∧ (decode cX7_land 43 = .ok (.ireturn, 1)) := by decide +kernel
theorem dX7_land_40 : decode cX7_land 40 = .ok (.getfield 232, 3) := qd3_97.1
theorem dX7_land_43 : decode cX7_land 43 = .ok (.ireturn, 1) := qd3_97.2
theorem qd3_98 : (decode cX7_lineOf 0 = .ok (.aload_n 0, 1)) ∧ (decode cX7_lineOf 1 = .ok (.iload_n 1, 1)) ∧ (decode cX7_lineOf 2 = .ok (.invokevirtual 128, 3)) ∧ (decode cX7_lineOf 5 = .ok (.ifCond .eq 26, 3)) ∧ (decode cX7_lineOf 8 = .ok (.iload_n 2, 1)) ∧ (decode cX7_lineOf 9 = .ok (.i2l, 1)) ∧ (decode cX7_lineOf 10 = .ok (.lconst 0, 1)) ∧ (decode cX7_lineOf 11 = .ok (.ldc2_w 249, 3)) ∧ (decode cX7_lineOf 14 = .ok (.invokestatic 78, 3)) ∧ (decode cX7_lineOf 17 = .ok (.ifCond .eq 14, 3)) ∧ (decode cX7_lineOf 20 = .ok (.aload_n 0, 1)) ∧ (decode cX7_lineOf 21 = .ok (.getfield 39, 3)) := by decide +kernel
theorem dX7_lineOf_0 : decode cX7_lineOf 0 = .ok (.aload_n 0, 1) := qd3_98.1
theorem dX7_lineOf_1 : decode cX7_lineOf 1 = .ok (.iload_n 1, 1) := qd3_98.2.1
theorem dX7_lineOf_2 : decode cX7_lineOf 2 = .ok (.invokevirtual 128, 3) := qd3_98.2.2.1
theorem dX7_lineOf_5 : decode cX7_lineOf 5 = .ok (.ifCond .eq 26, 3) := qd3_98.2.2.2.1
theorem dX7_lineOf_8 : decode cX7_lineOf 8 = .ok (.iload_n 2, 1) := qd3_98.2.2.2.2.1
theorem dX7_lineOf_9 : decode cX7_lineOf 9 = .ok (.i2l, 1) := qd3_98.2.2.2.2.2.1
theorem dX7_lineOf_10 : decode cX7_lineOf 10 = .ok (.lconst 0, 1) := qd3_98.2.2.2.2.2.2.1
theorem dX7_lineOf_11 : decode cX7_lineOf 11 = .ok (.ldc2_w 249, 3) := qd3_98.2.2.2.2.2.2.2.1
theorem dX7_lineOf_14 : decode cX7_lineOf 14 = .ok (.invokestatic 78, 3) := qd3_98.2.2.2.2.2.2.2.2.1
theorem dX7_lineOf_17 : decode cX7_lineOf 17 = .ok (.ifCond .eq 14, 3) := qd3_98.2.2.2.2.2.2.2.2.2.1
theorem dX7_lineOf_20 : decode cX7_lineOf 20 = .ok (.aload_n 0, 1) := qd3_98.2.2.2.2.2.2.2.2.2.2.1
theorem dX7_lineOf_21 : decode cX7_lineOf 21 = .ok (.getfield 39, 3) := qd3_98.2.2.2.2.2.2.2.2.2.2.2
theorem qd3_99 : (decode cX7_lineOf 24 = .ok (.iload_n 1, 1)) ∧ (decode cX7_lineOf 25 = .ok (.aaload, 1)) ∧ (decode cX7_lineOf 26 = .ok (.iload_n 2, 1)) ∧ (decode cX7_lineOf 27 = .ok (.iaload, 1)) ∧ (decode cX7_lineOf 28 = .ok (.goto 9, 3)) ∧ (decode cX7_lineOf 31 = .ok (.aload_n 0, 1)) ∧ (decode cX7_lineOf 32 = .ok (.bipush (-2), 2)) ∧ (decode cX7_lineOf 34 = .ok (.invokevirtual 94, 3)) ∧ (decode cX7_lineOf 37 = .ok (.ireturn, 1)) := by decide +kernel
theorem dX7_lineOf_24 : decode cX7_lineOf 24 = .ok (.iload_n 1, 1) := qd3_99.1
theorem dX7_lineOf_25 : decode cX7_lineOf 25 = .ok (.aaload, 1) := qd3_99.2.1
theorem dX7_lineOf_26 : decode cX7_lineOf 26 = .ok (.iload_n 2, 1) := qd3_99.2.2.1
theorem dX7_lineOf_27 : decode cX7_lineOf 27 = .ok (.iaload, 1) := qd3_99.2.2.2.1
theorem dX7_lineOf_28 : decode cX7_lineOf 28 = .ok (.goto 9, 3) := qd3_99.2.2.2.2.1
theorem dX7_lineOf_31 : decode cX7_lineOf 31 = .ok (.aload_n 0, 1) := qd3_99.2.2.2.2.2.1
theorem dX7_lineOf_32 : decode cX7_lineOf 32 = .ok (.bipush (-2), 2) := qd3_99.2.2.2.2.2.2.1
theorem dX7_lineOf_34 : decode cX7_lineOf 34 = .ok (.invokevirtual 94, 3) := qd3_99.2.2.2.2.2.2.2.1
theorem dX7_lineOf_37 : decode cX7_lineOf 37 = .ok (.ireturn, 1) := qd3_99.2.2.2.2.2.2.2.2
theorem qd3_100 : (decode cX7_goodsOf 0 = .ok (.iload_n 1, 1)) ∧ (decode cX7_goodsOf 1 = .ok (.i2l, 1)) ∧ (decode cX7_goodsOf 2 = .ok (.lconst 0, 1)) ∧ (decode cX7_goodsOf 3 = .ok (.aload_n 0, 1)) ∧ (decode cX7_goodsOf 4 = .ok (.getfield 125, 3)) ∧ (decode cX7_goodsOf 7 = .ok (.iconst 1, 1)) ∧ (decode cX7_goodsOf 8 = .ok (.isub, 1)) ∧ (decode cX7_goodsOf 9 = .ok (.i2l, 1)) ∧ (decode cX7_goodsOf 10 = .ok (.invokestatic 78, 3)) ∧ (decode cX7_goodsOf 13 = .ok (.ifCond .eq 26, 3)) ∧ (decode cX7_goodsOf 16 = .ok (.iload_n 2, 1)) ∧ (decode cX7_goodsOf 17 = .ok (.i2l, 1)) := by decide +kernel
theorem dX7_goodsOf_0 : decode cX7_goodsOf 0 = .ok (.iload_n 1, 1) := qd3_100.1
theorem dX7_goodsOf_1 : decode cX7_goodsOf 1 = .ok (.i2l, 1) := qd3_100.2.1
theorem dX7_goodsOf_2 : decode cX7_goodsOf 2 = .ok (.lconst 0, 1) := qd3_100.2.2.1
theorem dX7_goodsOf_3 : decode cX7_goodsOf 3 = .ok (.aload_n 0, 1) := qd3_100.2.2.2.1
theorem dX7_goodsOf_4 : decode cX7_goodsOf 4 = .ok (.getfield 125, 3) := qd3_100.2.2.2.2.1
theorem dX7_goodsOf_7 : decode cX7_goodsOf 7 = .ok (.iconst 1, 1) := qd3_100.2.2.2.2.2.1
theorem dX7_goodsOf_8 : decode cX7_goodsOf 8 = .ok (.isub, 1) := qd3_100.2.2.2.2.2.2.1
theorem dX7_goodsOf_9 : decode cX7_goodsOf 9 = .ok (.i2l, 1) := qd3_100.2.2.2.2.2.2.2.1
theorem dX7_goodsOf_10 : decode cX7_goodsOf 10 = .ok (.invokestatic 78, 3) := qd3_100.2.2.2.2.2.2.2.2.1
theorem dX7_goodsOf_13 : decode cX7_goodsOf 13 = .ok (.ifCond .eq 26, 3) := qd3_100.2.2.2.2.2.2.2.2.2.1
theorem dX7_goodsOf_16 : decode cX7_goodsOf 16 = .ok (.iload_n 2, 1) := qd3_100.2.2.2.2.2.2.2.2.2.2.1
theorem dX7_goodsOf_17 : decode cX7_goodsOf 17 = .ok (.i2l, 1) := qd3_100.2.2.2.2.2.2.2.2.2.2.2
theorem qd3_101 : (decode cX7_goodsOf 18 = .ok (.lconst 0, 1)) ∧ (decode cX7_goodsOf 19 = .ok (.ldc2_w 131, 3)) ∧ (decode cX7_goodsOf 22 = .ok (.invokestatic 78, 3)) ∧ (decode cX7_goodsOf 25 = .ok (.ifCond .eq 14, 3)) ∧ (decode cX7_goodsOf 28 = .ok (.aload_n 0, 1)) ∧ (decode cX7_goodsOf 29 = .ok (.getfield 48, 3)) ∧ (decode cX7_goodsOf 32 = .ok (.iload_n 1, 1)) ∧ (decode cX7_goodsOf 33 = .ok (.aaload, 1)) ∧ (decode cX7_goodsOf 34 = .ok (.iload_n 2, 1)) ∧ (decode cX7_goodsOf 35 = .ok (.iaload, 1)) ∧ (decode cX7_goodsOf 36 = .ok (.goto 9, 3)) ∧ (decode cX7_goodsOf 39 = .ok (.aload_n 0, 1)) := by decide +kernel
theorem dX7_goodsOf_18 : decode cX7_goodsOf 18 = .ok (.lconst 0, 1) := qd3_101.1
theorem dX7_goodsOf_19 : decode cX7_goodsOf 19 = .ok (.ldc2_w 131, 3) := qd3_101.2.1
theorem dX7_goodsOf_22 : decode cX7_goodsOf 22 = .ok (.invokestatic 78, 3) := qd3_101.2.2.1
theorem dX7_goodsOf_25 : decode cX7_goodsOf 25 = .ok (.ifCond .eq 14, 3) := qd3_101.2.2.2.1
theorem dX7_goodsOf_28 : decode cX7_goodsOf 28 = .ok (.aload_n 0, 1) := qd3_101.2.2.2.2.1
theorem dX7_goodsOf_29 : decode cX7_goodsOf 29 = .ok (.getfield 48, 3) := qd3_101.2.2.2.2.2.1
theorem dX7_goodsOf_32 : decode cX7_goodsOf 32 = .ok (.iload_n 1, 1) := qd3_101.2.2.2.2.2.2.1
theorem dX7_goodsOf_33 : decode cX7_goodsOf 33 = .ok (.aaload, 1) := qd3_101.2.2.2.2.2.2.2.1
theorem dX7_goodsOf_34 : decode cX7_goodsOf 34 = .ok (.iload_n 2, 1) := qd3_101.2.2.2.2.2.2.2.2.1
theorem dX7_goodsOf_35 : decode cX7_goodsOf 35 = .ok (.iaload, 1) := qd3_101.2.2.2.2.2.2.2.2.2.1
theorem dX7_goodsOf_36 : decode cX7_goodsOf 36 = .ok (.goto 9, 3) := qd3_101.2.2.2.2.2.2.2.2.2.2.1
theorem dX7_goodsOf_39 : decode cX7_goodsOf 39 = .ok (.aload_n 0, 1) := qd3_101.2.2.2.2.2.2.2.2.2.2.2
theorem qd3_102 : (decode cX7_goodsOf 40 = .ok (.bipush (-2), 2)) ∧ (decode cX7_goodsOf 42 = .ok (.invokevirtual 94, 3)) ∧ (decode cX7_goodsOf 45 = .ok (.ireturn, 1)) := by decide +kernel
theorem dX7_goodsOf_40 : decode cX7_goodsOf 40 = .ok (.bipush (-2), 2) := qd3_102.1
theorem dX7_goodsOf_42 : decode cX7_goodsOf 42 = .ok (.invokevirtual 94, 3) := qd3_102.2.1
theorem dX7_goodsOf_45 : decode cX7_goodsOf 45 = .ok (.ireturn, 1) := qd3_102.2.2
theorem qd3_103 : (decode cX7_workOf 0 = .ok (.aload_n 0, 1)) ∧ (decode cX7_workOf 1 = .ok (.iload_n 1, 1)) ∧ (decode cX7_workOf 2 = .ok (.invokevirtual 102, 3)) ∧ (decode cX7_workOf 5 = .ok (.ifCond .eq 26, 3)) ∧ (decode cX7_workOf 8 = .ok (.iload_n 2, 1)) ∧ (decode cX7_workOf 9 = .ok (.i2l, 1)) ∧ (decode cX7_workOf 10 = .ok (.lconst 0, 1)) ∧ (decode cX7_workOf 11 = .ok (.ldc2_w 90, 3)) ∧ (decode cX7_workOf 14 = .ok (.invokestatic 78, 3)) ∧ (decode cX7_workOf 17 = .ok (.ifCond .eq 14, 3)) ∧ (decode cX7_workOf 20 = .ok (.aload_n 0, 1)) ∧ (decode cX7_workOf 21 = .ok (.getfield 51, 3)) := by decide +kernel
theorem dX7_workOf_0 : decode cX7_workOf 0 = .ok (.aload_n 0, 1) := qd3_103.1
theorem dX7_workOf_1 : decode cX7_workOf 1 = .ok (.iload_n 1, 1) := qd3_103.2.1
theorem dX7_workOf_2 : decode cX7_workOf 2 = .ok (.invokevirtual 102, 3) := qd3_103.2.2.1
theorem dX7_workOf_5 : decode cX7_workOf 5 = .ok (.ifCond .eq 26, 3) := qd3_103.2.2.2.1
theorem dX7_workOf_8 : decode cX7_workOf 8 = .ok (.iload_n 2, 1) := qd3_103.2.2.2.2.1
theorem dX7_workOf_9 : decode cX7_workOf 9 = .ok (.i2l, 1) := qd3_103.2.2.2.2.2.1
theorem dX7_workOf_10 : decode cX7_workOf 10 = .ok (.lconst 0, 1) := qd3_103.2.2.2.2.2.2.1
theorem dX7_workOf_11 : decode cX7_workOf 11 = .ok (.ldc2_w 90, 3) := qd3_103.2.2.2.2.2.2.2.1
theorem dX7_workOf_14 : decode cX7_workOf 14 = .ok (.invokestatic 78, 3) := qd3_103.2.2.2.2.2.2.2.2.1
theorem dX7_workOf_17 : decode cX7_workOf 17 = .ok (.ifCond .eq 14, 3) := qd3_103.2.2.2.2.2.2.2.2.2.1
theorem dX7_workOf_20 : decode cX7_workOf 20 = .ok (.aload_n 0, 1) := qd3_103.2.2.2.2.2.2.2.2.2.2.1
theorem dX7_workOf_21 : decode cX7_workOf 21 = .ok (.getfield 51, 3) := qd3_103.2.2.2.2.2.2.2.2.2.2.2
theorem qd3_104 : (decode cX7_workOf 24 = .ok (.iload_n 1, 1)) ∧ (decode cX7_workOf 25 = .ok (.aaload, 1)) ∧ (decode cX7_workOf 26 = .ok (.iload_n 2, 1)) ∧ (decode cX7_workOf 27 = .ok (.iaload, 1)) ∧ (decode cX7_workOf 28 = .ok (.goto 9, 3)) ∧ (decode cX7_workOf 31 = .ok (.aload_n 0, 1)) ∧ (decode cX7_workOf 32 = .ok (.bipush (-2), 2)) ∧ (decode cX7_workOf 34 = .ok (.invokevirtual 94, 3)) ∧ (decode cX7_workOf 37 = .ok (.ireturn, 1)) := by decide +kernel
theorem dX7_workOf_24 : decode cX7_workOf 24 = .ok (.iload_n 1, 1) := qd3_104.1
theorem dX7_workOf_25 : decode cX7_workOf 25 = .ok (.aaload, 1) := qd3_104.2.1
theorem dX7_workOf_26 : decode cX7_workOf 26 = .ok (.iload_n 2, 1) := qd3_104.2.2.1
theorem dX7_workOf_27 : decode cX7_workOf 27 = .ok (.iaload, 1) := qd3_104.2.2.2.1
theorem dX7_workOf_28 : decode cX7_workOf 28 = .ok (.goto 9, 3) := qd3_104.2.2.2.2.1
theorem dX7_workOf_31 : decode cX7_workOf 31 = .ok (.aload_n 0, 1) := qd3_104.2.2.2.2.2.1
theorem dX7_workOf_32 : decode cX7_workOf 32 = .ok (.bipush (-2), 2) := qd3_104.2.2.2.2.2.2.1
theorem dX7_workOf_34 : decode cX7_workOf 34 = .ok (.invokevirtual 94, 3) := qd3_104.2.2.2.2.2.2.2.1
theorem dX7_workOf_37 : decode cX7_workOf 37 = .ok (.ireturn, 1) := qd3_104.2.2.2.2.2.2.2.2
theorem qd3_105 : (decode cX7_bears 0 = .ok (.aload_n 0, 1)) ∧ (decode cX7_bears 1 = .ok (.getfield 39, 3)) ∧ (decode cX7_bears 4 = .ok (.iload_n 1, 1)) ∧ (decode cX7_bears 5 = .ok (.aaload, 1)) ∧ (decode cX7_bears 6 = .ok (.bipush 6, 2)) ∧ (decode cX7_bears 8 = .ok (.iaload, 1)) ∧ (decode cX7_bears 9 = .ok (.ifCond .ne 35, 3)) ∧ (decode cX7_bears 12 = .ok (.aload_n 0, 1)) ∧ (decode cX7_bears 13 = .ok (.getfield 39, 3)) ∧ (decode cX7_bears 16 = .ok (.iload_n 1, 1)) ∧ (decode cX7_bears 17 = .ok (.aaload, 1)) ∧ (decode cX7_bears 18 = .ok (.iconst 2, 1)) := by decide +kernel
theorem dX7_bears_0 : decode cX7_bears 0 = .ok (.aload_n 0, 1) := qd3_105.1
theorem dX7_bears_1 : decode cX7_bears 1 = .ok (.getfield 39, 3) := qd3_105.2.1
theorem dX7_bears_4 : decode cX7_bears 4 = .ok (.iload_n 1, 1) := qd3_105.2.2.1
theorem dX7_bears_5 : decode cX7_bears 5 = .ok (.aaload, 1) := qd3_105.2.2.2.1
theorem dX7_bears_6 : decode cX7_bears 6 = .ok (.bipush 6, 2) := qd3_105.2.2.2.2.1
theorem dX7_bears_8 : decode cX7_bears 8 = .ok (.iaload, 1) := qd3_105.2.2.2.2.2.1
theorem dX7_bears_9 : decode cX7_bears 9 = .ok (.ifCond .ne 35, 3) := qd3_105.2.2.2.2.2.2.1
theorem dX7_bears_12 : decode cX7_bears 12 = .ok (.aload_n 0, 1) := qd3_105.2.2.2.2.2.2.2.1
theorem dX7_bears_13 : decode cX7_bears 13 = .ok (.getfield 39, 3) := qd3_105.2.2.2.2.2.2.2.2.1
theorem dX7_bears_16 : decode cX7_bears 16 = .ok (.iload_n 1, 1) := qd3_105.2.2.2.2.2.2.2.2.2.1
theorem dX7_bears_17 : decode cX7_bears 17 = .ok (.aaload, 1) := qd3_105.2.2.2.2.2.2.2.2.2.2.1
theorem dX7_bears_18 : decode cX7_bears 18 = .ok (.iconst 2, 1) := qd3_105.2.2.2.2.2.2.2.2.2.2.2
theorem qd3_106 : (decode cX7_bears 19 = .ok (.iaload, 1)) ∧ (decode cX7_bears 20 = .ok (.iload_n 2, 1)) ∧ (decode cX7_bears 21 = .ok (.ishr, 1)) ∧ (decode cX7_bears 22 = .ok (.iconst 1, 1)) ∧ (decode cX7_bears 23 = .ok (.iand, 1)) ∧ (decode cX7_bears 24 = .ok (.ifCond .eq 20, 3)) ∧ (decode cX7_bears 27 = .ok (.aload_n 0, 1)) ∧ (decode cX7_bears 28 = .ok (.getfield 61, 3)) ∧ (decode cX7_bears 31 = .ok (.iload_n 1, 1)) ∧ (decode cX7_bears 32 = .ok (.iaload, 1)) ∧ (decode cX7_bears 33 = .ok (.aload_n 0, 1)) ∧ (decode cX7_bears 34 = .ok (.getfield 251, 3)) := by decide +kernel
theorem dX7_bears_19 : decode cX7_bears 19 = .ok (.iaload, 1) := qd3_106.1
theorem dX7_bears_20 : decode cX7_bears 20 = .ok (.iload_n 2, 1) := qd3_106.2.1
theorem dX7_bears_21 : decode cX7_bears 21 = .ok (.ishr, 1) := qd3_106.2.2.1
theorem dX7_bears_22 : decode cX7_bears 22 = .ok (.iconst 1, 1) := qd3_106.2.2.2.1
theorem dX7_bears_23 : decode cX7_bears 23 = .ok (.iand, 1) := qd3_106.2.2.2.2.1
theorem dX7_bears_24 : decode cX7_bears 24 = .ok (.ifCond .eq 20, 3) := qd3_106.2.2.2.2.2.1
theorem dX7_bears_27 : decode cX7_bears 27 = .ok (.aload_n 0, 1) := qd3_106.2.2.2.2.2.2.1
theorem dX7_bears_28 : decode cX7_bears 28 = .ok (.getfield 61, 3) := qd3_106.2.2.2.2.2.2.2.1
theorem dX7_bears_31 : decode cX7_bears 31 = .ok (.iload_n 1, 1) := qd3_106.2.2.2.2.2.2.2.2.1
theorem dX7_bears_32 : decode cX7_bears 32 = .ok (.iaload, 1) := qd3_106.2.2.2.2.2.2.2.2.2.1
theorem dX7_bears_33 : decode cX7_bears 33 = .ok (.aload_n 0, 1) := qd3_106.2.2.2.2.2.2.2.2.2.2.1
theorem dX7_bears_34 : decode cX7_bears 34 = .ok (.getfield 251, 3) := qd3_106.2.2.2.2.2.2.2.2.2.2.2
theorem qd3_107 : (decode cX7_bears 37 = .ok (.if_icmp .lt 7, 3)) ∧ (decode cX7_bears 40 = .ok (.iconst 1, 1)) ∧ (decode cX7_bears 41 = .ok (.goto 4, 3)) ∧ (decode cX7_bears 44 = .ok (.iconst 0, 1)) ∧ (decode cX7_bears 45 = .ok (.ireturn, 1)) := by decide +kernel
theorem dX7_bears_37 : decode cX7_bears 37 = .ok (.if_icmp .lt 7, 3) := qd3_107.1
theorem dX7_bears_40 : decode cX7_bears 40 = .ok (.iconst 1, 1) := qd3_107.2.1
theorem dX7_bears_41 : decode cX7_bears 41 = .ok (.goto 4, 3) := qd3_107.2.2.1
theorem dX7_bears_44 : decode cX7_bears 44 = .ok (.iconst 0, 1) := qd3_107.2.2.2.1
theorem dX7_bears_45 : decode cX7_bears 45 = .ok (.ireturn, 1) := qd3_107.2.2.2.2
theorem qd3_108 : (decode cX7_refill 0 = .ok (.iconst 0, 1)) ∧ (decode cX7_refill 1 = .ok (.istore_n 1, 1)) ∧ (decode cX7_refill 2 = .ok (.iload_n 1, 1)) ∧ (decode cX7_refill 3 = .ok (.aload_n 0, 1)) ∧ (decode cX7_refill 4 = .ok (.getfield 82, 3)) ∧ (decode cX7_refill 7 = .ok (.if_icmp .ge 23, 3)) ∧ (decode cX7_refill 10 = .ok (.aload_n 0, 1)) ∧ (decode cX7_refill 11 = .ok (.getfield 61, 3)) ∧ (decode cX7_refill 14 = .ok (.iload_n 1, 1)) ∧ (decode cX7_refill 15 = .ok (.aload_n 0, 1)) ∧ (decode cX7_refill 16 = .ok (.getfield 39, 3)) ∧ (decode cX7_refill 19 = .ok (.iload_n 1, 1)) := by decide +kernel
theorem dX7_refill_0 : decode cX7_refill 0 = .ok (.iconst 0, 1) := qd3_108.1
theorem dX7_refill_1 : decode cX7_refill 1 = .ok (.istore_n 1, 1) := qd3_108.2.1
theorem dX7_refill_2 : decode cX7_refill 2 = .ok (.iload_n 1, 1) := qd3_108.2.2.1
theorem dX7_refill_3 : decode cX7_refill 3 = .ok (.aload_n 0, 1) := qd3_108.2.2.2.1
theorem dX7_refill_4 : decode cX7_refill 4 = .ok (.getfield 82, 3) := qd3_108.2.2.2.2.1
theorem dX7_refill_7 : decode cX7_refill 7 = .ok (.if_icmp .ge 23, 3) := qd3_108.2.2.2.2.2.1
theorem dX7_refill_10 : decode cX7_refill 10 = .ok (.aload_n 0, 1) := qd3_108.2.2.2.2.2.2.1
theorem dX7_refill_11 : decode cX7_refill 11 = .ok (.getfield 61, 3) := qd3_108.2.2.2.2.2.2.2.1
theorem dX7_refill_14 : decode cX7_refill 14 = .ok (.iload_n 1, 1) := qd3_108.2.2.2.2.2.2.2.2.1
theorem dX7_refill_15 : decode cX7_refill 15 = .ok (.aload_n 0, 1) := qd3_108.2.2.2.2.2.2.2.2.2.1
theorem dX7_refill_16 : decode cX7_refill 16 = .ok (.getfield 39, 3) := qd3_108.2.2.2.2.2.2.2.2.2.2.1
theorem dX7_refill_19 : decode cX7_refill 19 = .ok (.iload_n 1, 1) := qd3_108.2.2.2.2.2.2.2.2.2.2.2
theorem qd3_109 : (decode cX7_refill 20 = .ok (.aaload, 1)) ∧ (decode cX7_refill 21 = .ok (.iconst 4, 1)) ∧ (decode cX7_refill 22 = .ok (.iaload, 1)) ∧ (decode cX7_refill 23 = .ok (.iastore, 1)) ∧ (decode cX7_refill 24 = .ok (.iinc 1 1, 3)) ∧ (decode cX7_refill 27 = .ok (.goto (-25), 3)) ∧ (decode cX7_refill 30 = .ok (.return_, 1)) := by decide +kernel
theorem dX7_refill_20 : decode cX7_refill 20 = .ok (.aaload, 1) := qd3_109.1
theorem dX7_refill_21 : decode cX7_refill 21 = .ok (.iconst 4, 1) := qd3_109.2.1
theorem dX7_refill_22 : decode cX7_refill 22 = .ok (.iaload, 1) := qd3_109.2.2.1
theorem dX7_refill_23 : decode cX7_refill 23 = .ok (.iastore, 1) := qd3_109.2.2.2.1
theorem dX7_refill_24 : decode cX7_refill 24 = .ok (.iinc 1 1, 3) := qd3_109.2.2.2.2.1
theorem dX7_refill_27 : decode cX7_refill 27 = .ok (.goto (-25), 3) := qd3_109.2.2.2.2.2.1
theorem dX7_refill_30 : decode cX7_refill 30 = .ok (.return_, 1) := qd3_109.2.2.2.2.2.2
theorem qd3_110 : (decode cX7_findFar 0 = .ok (.aload_n 0, 1)) ∧ (decode cX7_findFar 1 = .ok (.iload_n 2, 1)) ∧ (decode cX7_findFar 2 = .ok (.putfield 251, 3)) ∧ (decode cX7_findFar 5 = .ok (.iconst 0, 1)) ∧ (decode cX7_findFar 6 = .ok (.istore_n 3, 1)) ∧ (decode cX7_findFar 7 = .ok (.iload_n 3, 1)) ∧ (decode cX7_findFar 8 = .ok (.bipush 36, 2)) ∧ (decode cX7_findFar 10 = .ok (.if_icmp .ge 28, 3)) ∧ (decode cX7_findFar 13 = .ok (.aload_n 0, 1)) ∧ (decode cX7_findFar 14 = .ok (.getfield 64, 3)) ∧ (decode cX7_findFar 17 = .ok (.iload_n 3, 1)) ∧ (decode cX7_findFar 18 = .ok (.iload_n 3, 1)) := by decide +kernel
theorem dX7_findFar_0 : decode cX7_findFar 0 = .ok (.aload_n 0, 1) := qd3_110.1
theorem dX7_findFar_1 : decode cX7_findFar 1 = .ok (.iload_n 2, 1) := qd3_110.2.1
theorem dX7_findFar_2 : decode cX7_findFar 2 = .ok (.putfield 251, 3) := qd3_110.2.2.1
theorem dX7_findFar_5 : decode cX7_findFar 5 = .ok (.iconst 0, 1) := qd3_110.2.2.2.1
theorem dX7_findFar_6 : decode cX7_findFar 6 = .ok (.istore_n 3, 1) := qd3_110.2.2.2.2.1
theorem dX7_findFar_7 : decode cX7_findFar 7 = .ok (.iload_n 3, 1) := qd3_110.2.2.2.2.2.1
theorem dX7_findFar_8 : decode cX7_findFar 8 = .ok (.bipush 36, 2) := qd3_110.2.2.2.2.2.2.1
theorem dX7_findFar_10 : decode cX7_findFar 10 = .ok (.if_icmp .ge 28, 3) := qd3_110.2.2.2.2.2.2.2.1
theorem dX7_findFar_13 : decode cX7_findFar 13 = .ok (.aload_n 0, 1) := qd3_110.2.2.2.2.2.2.2.2.1
theorem dX7_findFar_14 : decode cX7_findFar 14 = .ok (.getfield 64, 3) := qd3_110.2.2.2.2.2.2.2.2.2.1
theorem dX7_findFar_17 : decode cX7_findFar 17 = .ok (.iload_n 3, 1) := qd3_110.2.2.2.2.2.2.2.2.2.2.1
theorem dX7_findFar_18 : decode cX7_findFar 18 = .ok (.iload_n 3, 1) := qd3_110.2.2.2.2.2.2.2.2.2.2.2
theorem qd3_111 : (decode cX7_findFar 19 = .ok (.iconst 3, 1)) ∧ (decode cX7_findFar 20 = .ok (.idiv, 1)) ∧ (decode cX7_findFar 21 = .ok (.iload_n 1, 1)) ∧ (decode cX7_findFar 22 = .ok (.if_icmp .ne 7, 3)) ∧ (decode cX7_findFar 25 = .ok (.iconst 0, 1)) ∧ (decode cX7_findFar 26 = .ok (.goto 5, 3)) ∧ (decode cX7_findFar 29 = .ok (.ldc 254, 2)) ∧ (decode cX7_findFar 31 = .ok (.iastore, 1)) ∧ (decode cX7_findFar 32 = .ok (.iinc 3 1, 3)) ∧ (decode cX7_findFar 35 = .ok (.goto (-28), 3)) ∧ (decode cX7_findFar 38 = .ok (.iconst 1, 1)) ∧ (decode cX7_findFar 39 = .ok (.istore_n 3, 1)) := by decide +kernel
theorem dX7_findFar_19 : decode cX7_findFar 19 = .ok (.iconst 3, 1) := qd3_111.1
theorem dX7_findFar_20 : decode cX7_findFar 20 = .ok (.idiv, 1) := qd3_111.2.1
theorem dX7_findFar_21 : decode cX7_findFar 21 = .ok (.iload_n 1, 1) := qd3_111.2.2.1
theorem dX7_findFar_22 : decode cX7_findFar 22 = .ok (.if_icmp .ne 7, 3) := qd3_111.2.2.2.1
theorem dX7_findFar_25 : decode cX7_findFar 25 = .ok (.iconst 0, 1) := qd3_111.2.2.2.2.1
theorem dX7_findFar_26 : decode cX7_findFar 26 = .ok (.goto 5, 3) := qd3_111.2.2.2.2.2.1
theorem dX7_findFar_29 : decode cX7_findFar 29 = .ok (.ldc 254, 2) := qd3_111.2.2.2.2.2.2.1
theorem dX7_findFar_31 : decode cX7_findFar 31 = .ok (.iastore, 1) := qd3_111.2.2.2.2.2.2.2.1
theorem dX7_findFar_32 : decode cX7_findFar 32 = .ok (.iinc 3 1, 3) := qd3_111.2.2.2.2.2.2.2.2.1
theorem dX7_findFar_35 : decode cX7_findFar 35 = .ok (.goto (-28), 3) := qd3_111.2.2.2.2.2.2.2.2.2.1
theorem dX7_findFar_38 : decode cX7_findFar 38 = .ok (.iconst 1, 1) := qd3_111.2.2.2.2.2.2.2.2.2.2.1
theorem dX7_findFar_39 : decode cX7_findFar 39 = .ok (.istore_n 3, 1) := qd3_111.2.2.2.2.2.2.2.2.2.2.2
theorem qd3_112 : (decode cX7_findFar 40 = .ok (.iload_n 3, 1)) ∧ (decode cX7_findFar 41 = .ok (.ifCond .eq 276, 3)) ∧ (decode cX7_findFar 44 = .ok (.iconst 0, 1)) ∧ (decode cX7_findFar 45 = .ok (.istore_n 3, 1)) ∧ (decode cX7_findFar 46 = .ok (.iconst 0, 1)) ∧ (decode cX7_findFar 47 = .ok (.istore 4, 2)) ∧ (decode cX7_findFar 49 = .ok (.iload 4, 2)) ∧ (decode cX7_findFar 51 = .ok (.aload_n 0, 1)) ∧ (decode cX7_findFar 52 = .ok (.getfield 82, 3)) ∧ (decode cX7_findFar 55 = .ok (.if_icmp .ge 164, 3)) ∧ (decode cX7_findFar 58 = .ok (.iconst 0, 1)) ∧ (decode cX7_findFar 59 = .ok (.istore 5, 2)) := by decide +kernel
theorem dX7_findFar_40 : decode cX7_findFar 40 = .ok (.iload_n 3, 1) := qd3_112.1
theorem dX7_findFar_41 : decode cX7_findFar 41 = .ok (.ifCond .eq 276, 3) := qd3_112.2.1
theorem dX7_findFar_44 : decode cX7_findFar 44 = .ok (.iconst 0, 1) := qd3_112.2.2.1
theorem dX7_findFar_45 : decode cX7_findFar 45 = .ok (.istore_n 3, 1) := qd3_112.2.2.2.1
theorem dX7_findFar_46 : decode cX7_findFar 46 = .ok (.iconst 0, 1) := qd3_112.2.2.2.2.1
theorem dX7_findFar_47 : decode cX7_findFar 47 = .ok (.istore 4, 2) := qd3_112.2.2.2.2.2.1
theorem dX7_findFar_49 : decode cX7_findFar 49 = .ok (.iload 4, 2) := qd3_112.2.2.2.2.2.2.1
theorem dX7_findFar_51 : decode cX7_findFar 51 = .ok (.aload_n 0, 1) := qd3_112.2.2.2.2.2.2.2.1
theorem dX7_findFar_52 : decode cX7_findFar 52 = .ok (.getfield 82, 3) := qd3_112.2.2.2.2.2.2.2.2.1
theorem dX7_findFar_55 : decode cX7_findFar 55 = .ok (.if_icmp .ge 164, 3) := qd3_112.2.2.2.2.2.2.2.2.2.1
theorem dX7_findFar_58 : decode cX7_findFar 58 = .ok (.iconst 0, 1) := qd3_112.2.2.2.2.2.2.2.2.2.2.1
theorem dX7_findFar_59 : decode cX7_findFar 59 = .ok (.istore 5, 2) := qd3_112.2.2.2.2.2.2.2.2.2.2.2
theorem qd3_113 : (decode cX7_findFar 61 = .ok (.iload 5, 2)) ∧ (decode cX7_findFar 63 = .ok (.iconst 3, 1)) ∧ (decode cX7_findFar 64 = .ok (.if_icmp .ge 149, 3)) ∧ (decode cX7_findFar 67 = .ok (.aload_n 0, 1)) ∧ (decode cX7_findFar 68 = .ok (.iload 4, 2)) ∧ (decode cX7_findFar 70 = .ok (.iload 5, 2)) ∧ (decode cX7_findFar 72 = .ok (.invokevirtual 255, 3)) ∧ (decode cX7_findFar 75 = .ok (.ifCond .eq 132, 3)) ∧ (decode cX7_findFar 78 = .ok (.iconst 3, 1)) ∧ (decode cX7_findFar 79 = .ok (.aload_n 0, 1)) ∧ (decode cX7_findFar 80 = .ok (.getfield 39, 3)) ∧ (decode cX7_findFar 83 = .ok (.iload 4, 2)) := by decide +kernel
theorem dX7_findFar_61 : decode cX7_findFar 61 = .ok (.iload 5, 2) := qd3_113.1
theorem dX7_findFar_63 : decode cX7_findFar 63 = .ok (.iconst 3, 1) := qd3_113.2.1
theorem dX7_findFar_64 : decode cX7_findFar 64 = .ok (.if_icmp .ge 149, 3) := qd3_113.2.2.1
theorem dX7_findFar_67 : decode cX7_findFar 67 = .ok (.aload_n 0, 1) := qd3_113.2.2.2.1
theorem dX7_findFar_68 : decode cX7_findFar 68 = .ok (.iload 4, 2) := qd3_113.2.2.2.2.1
theorem dX7_findFar_70 : decode cX7_findFar 70 = .ok (.iload 5, 2) := qd3_113.2.2.2.2.2.1
theorem dX7_findFar_72 : decode cX7_findFar 72 = .ok (.invokevirtual 255, 3) := qd3_113.2.2.2.2.2.2.1
theorem dX7_findFar_75 : decode cX7_findFar 75 = .ok (.ifCond .eq 132, 3) := qd3_113.2.2.2.2.2.2.2.1
theorem dX7_findFar_78 : decode cX7_findFar 78 = .ok (.iconst 3, 1) := qd3_113.2.2.2.2.2.2.2.2.1
theorem dX7_findFar_79 : decode cX7_findFar 79 = .ok (.aload_n 0, 1) := qd3_113.2.2.2.2.2.2.2.2.2.1
theorem dX7_findFar_80 : decode cX7_findFar 80 = .ok (.getfield 39, 3) := qd3_113.2.2.2.2.2.2.2.2.2.2.1
theorem dX7_findFar_83 : decode cX7_findFar 83 = .ok (.iload 4, 2) := qd3_113.2.2.2.2.2.2.2.2.2.2.2
theorem qd3_114 : (decode cX7_findFar 85 = .ok (.aaload, 1)) ∧ (decode cX7_findFar 86 = .ok (.iconst 0, 1)) ∧ (decode cX7_findFar 87 = .ok (.iaload, 1)) ∧ (decode cX7_findFar 88 = .ok (.imul, 1)) ∧ (decode cX7_findFar 89 = .ok (.iload 5, 2)) ∧ (decode cX7_findFar 91 = .ok (.iadd, 1)) ∧ (decode cX7_findFar 92 = .ok (.istore 6, 2)) ∧ (decode cX7_findFar 94 = .ok (.iconst 3, 1)) ∧ (decode cX7_findFar 95 = .ok (.aload_n 0, 1)) ∧ (decode cX7_findFar 96 = .ok (.getfield 39, 3)) ∧ (decode cX7_findFar 99 = .ok (.iload 4, 2)) ∧ (decode cX7_findFar 101 = .ok (.aaload, 1)) := by decide +kernel
theorem dX7_findFar_85 : decode cX7_findFar 85 = .ok (.aaload, 1) := qd3_114.1
theorem dX7_findFar_86 : decode cX7_findFar 86 = .ok (.iconst 0, 1) := qd3_114.2.1
theorem dX7_findFar_87 : decode cX7_findFar 87 = .ok (.iaload, 1) := qd3_114.2.2.1
theorem dX7_findFar_88 : decode cX7_findFar 88 = .ok (.imul, 1) := qd3_114.2.2.2.1
theorem dX7_findFar_89 : decode cX7_findFar 89 = .ok (.iload 5, 2) := qd3_114.2.2.2.2.1
theorem dX7_findFar_91 : decode cX7_findFar 91 = .ok (.iadd, 1) := qd3_114.2.2.2.2.2.1
theorem dX7_findFar_92 : decode cX7_findFar 92 = .ok (.istore 6, 2) := qd3_114.2.2.2.2.2.2.1
theorem dX7_findFar_94 : decode cX7_findFar 94 = .ok (.iconst 3, 1) := qd3_114.2.2.2.2.2.2.2.1
theorem dX7_findFar_95 : decode cX7_findFar 95 = .ok (.aload_n 0, 1) := qd3_114.2.2.2.2.2.2.2.2.1
theorem dX7_findFar_96 : decode cX7_findFar 96 = .ok (.getfield 39, 3) := qd3_114.2.2.2.2.2.2.2.2.2.1
theorem dX7_findFar_99 : decode cX7_findFar 99 = .ok (.iload 4, 2) := qd3_114.2.2.2.2.2.2.2.2.2.2.1
theorem dX7_findFar_101 : decode cX7_findFar 101 = .ok (.aaload, 1) := qd3_114.2.2.2.2.2.2.2.2.2.2.2
theorem qd3_115 : (decode cX7_findFar 102 = .ok (.iconst 1, 1)) ∧ (decode cX7_findFar 103 = .ok (.iaload, 1)) ∧ (decode cX7_findFar 104 = .ok (.imul, 1)) ∧ (decode cX7_findFar 105 = .ok (.iload 5, 2)) ∧ (decode cX7_findFar 107 = .ok (.iadd, 1)) ∧ (decode cX7_findFar 108 = .ok (.istore 7, 2)) ∧ (decode cX7_findFar 110 = .ok (.aload_n 0, 1)) ∧ (decode cX7_findFar 111 = .ok (.getfield 39, 3)) ∧ (decode cX7_findFar 114 = .ok (.iload 4, 2)) ∧ (decode cX7_findFar 116 = .ok (.aaload, 1)) ∧ (decode cX7_findFar 117 = .ok (.iconst 3, 1)) ∧ (decode cX7_findFar 118 = .ok (.iaload, 1)) := by decide +kernel
theorem dX7_findFar_102 : decode cX7_findFar 102 = .ok (.iconst 1, 1) := qd3_115.1
theorem dX7_findFar_103 : decode cX7_findFar 103 = .ok (.iaload, 1) := qd3_115.2.1
theorem dX7_findFar_104 : decode cX7_findFar 104 = .ok (.imul, 1) := qd3_115.2.2.1
theorem dX7_findFar_105 : decode cX7_findFar 105 = .ok (.iload 5, 2) := qd3_115.2.2.2.1
theorem dX7_findFar_107 : decode cX7_findFar 107 = .ok (.iadd, 1) := qd3_115.2.2.2.2.1
theorem dX7_findFar_108 : decode cX7_findFar 108 = .ok (.istore 7, 2) := qd3_115.2.2.2.2.2.1
theorem dX7_findFar_110 : decode cX7_findFar 110 = .ok (.aload_n 0, 1) := qd3_115.2.2.2.2.2.2.1
theorem dX7_findFar_111 : decode cX7_findFar 111 = .ok (.getfield 39, 3) := qd3_115.2.2.2.2.2.2.2.1
theorem dX7_findFar_114 : decode cX7_findFar 114 = .ok (.iload 4, 2) := qd3_115.2.2.2.2.2.2.2.2.1
theorem dX7_findFar_116 : decode cX7_findFar 116 = .ok (.aaload, 1) := qd3_115.2.2.2.2.2.2.2.2.2.1
theorem dX7_findFar_117 : decode cX7_findFar 117 = .ok (.iconst 3, 1) := qd3_115.2.2.2.2.2.2.2.2.2.2.1
theorem dX7_findFar_118 : decode cX7_findFar 118 = .ok (.iaload, 1) := qd3_115.2.2.2.2.2.2.2.2.2.2.2
theorem qd3_116 : (decode cX7_findFar 119 = .ok (.aload_n 0, 1)) ∧ (decode cX7_findFar 120 = .ok (.getfield 45, 3)) ∧ (decode cX7_findFar 123 = .ok (.iload 5, 2)) ∧ (decode cX7_findFar 125 = .ok (.iaload, 1)) ∧ (decode cX7_findFar 126 = .ok (.imul, 1)) ∧ (decode cX7_findFar 127 = .ok (.istore 8, 2)) ∧ (decode cX7_findFar 129 = .ok (.aload_n 0, 1)) ∧ (decode cX7_findFar 130 = .ok (.getfield 64, 3)) ∧ (decode cX7_findFar 133 = .ok (.iload 7, 2)) ∧ (decode cX7_findFar 135 = .ok (.iaload, 1)) ∧ (decode cX7_findFar 136 = .ok (.iload 8, 2)) ∧ (decode cX7_findFar 138 = .ok (.iadd, 1)) := by decide +kernel
theorem dX7_findFar_119 : decode cX7_findFar 119 = .ok (.aload_n 0, 1) := qd3_116.1
theorem dX7_findFar_120 : decode cX7_findFar 120 = .ok (.getfield 45, 3) := qd3_116.2.1
theorem dX7_findFar_123 : decode cX7_findFar 123 = .ok (.iload 5, 2) := qd3_116.2.2.1
theorem dX7_findFar_125 : decode cX7_findFar 125 = .ok (.iaload, 1) := qd3_116.2.2.2.1
theorem dX7_findFar_126 : decode cX7_findFar 126 = .ok (.imul, 1) := qd3_116.2.2.2.2.1
theorem dX7_findFar_127 : decode cX7_findFar 127 = .ok (.istore 8, 2) := qd3_116.2.2.2.2.2.1
theorem dX7_findFar_129 : decode cX7_findFar 129 = .ok (.aload_n 0, 1) := qd3_116.2.2.2.2.2.2.1
theorem dX7_findFar_130 : decode cX7_findFar 130 = .ok (.getfield 64, 3) := qd3_116.2.2.2.2.2.2.2.1
theorem dX7_findFar_133 : decode cX7_findFar 133 = .ok (.iload 7, 2) := qd3_116.2.2.2.2.2.2.2.2.1
theorem dX7_findFar_135 : decode cX7_findFar 135 = .ok (.iaload, 1) := qd3_116.2.2.2.2.2.2.2.2.2.1
theorem dX7_findFar_136 : decode cX7_findFar 136 = .ok (.iload 8, 2) := qd3_116.2.2.2.2.2.2.2.2.2.2.1
theorem dX7_findFar_138 : decode cX7_findFar 138 = .ok (.iadd, 1) := qd3_116.2.2.2.2.2.2.2.2.2.2.2
theorem qd3_117 : (decode cX7_findFar 139 = .ok (.aload_n 0, 1)) ∧ (decode cX7_findFar 140 = .ok (.getfield 64, 3)) ∧ (decode cX7_findFar 143 = .ok (.iload 6, 2)) ∧ (decode cX7_findFar 145 = .ok (.iaload, 1)) ∧ (decode cX7_findFar 146 = .ok (.if_icmp .ge 22, 3)) ∧ (decode cX7_findFar 149 = .ok (.aload_n 0, 1)) ∧ (decode cX7_findFar 150 = .ok (.getfield 64, 3)) ∧ (decode cX7_findFar 153 = .ok (.iload 6, 2)) ∧ (decode cX7_findFar 155 = .ok (.aload_n 0, 1)) ∧ (decode cX7_findFar 156 = .ok (.getfield 64, 3)) ∧ (decode cX7_findFar 159 = .ok (.iload 7, 2)) ∧ (decode cX7_findFar 161 = .ok (.iaload, 1)) := by decide +kernel
theorem dX7_findFar_139 : decode cX7_findFar 139 = .ok (.aload_n 0, 1) := qd3_117.1
theorem dX7_findFar_140 : decode cX7_findFar 140 = .ok (.getfield 64, 3) := qd3_117.2.1
theorem dX7_findFar_143 : decode cX7_findFar 143 = .ok (.iload 6, 2) := qd3_117.2.2.1
theorem dX7_findFar_145 : decode cX7_findFar 145 = .ok (.iaload, 1) := qd3_117.2.2.2.1
theorem dX7_findFar_146 : decode cX7_findFar 146 = .ok (.if_icmp .ge 22, 3) := qd3_117.2.2.2.2.1
theorem dX7_findFar_149 : decode cX7_findFar 149 = .ok (.aload_n 0, 1) := qd3_117.2.2.2.2.2.1
theorem dX7_findFar_150 : decode cX7_findFar 150 = .ok (.getfield 64, 3) := qd3_117.2.2.2.2.2.2.1
theorem dX7_findFar_153 : decode cX7_findFar 153 = .ok (.iload 6, 2) := qd3_117.2.2.2.2.2.2.2.1
theorem dX7_findFar_155 : decode cX7_findFar 155 = .ok (.aload_n 0, 1) := qd3_117.2.2.2.2.2.2.2.2.1
theorem dX7_findFar_156 : decode cX7_findFar 156 = .ok (.getfield 64, 3) := qd3_117.2.2.2.2.2.2.2.2.2.1
theorem dX7_findFar_159 : decode cX7_findFar 159 = .ok (.iload 7, 2) := qd3_117.2.2.2.2.2.2.2.2.2.2.1
theorem dX7_findFar_161 : decode cX7_findFar 161 = .ok (.iaload, 1) := qd3_117.2.2.2.2.2.2.2.2.2.2.2
theorem qd3_118 : (decode cX7_findFar 162 = .ok (.iload 8, 2)) ∧ (decode cX7_findFar 164 = .ok (.iadd, 1)) ∧ (decode cX7_findFar 165 = .ok (.iastore, 1)) ∧ (decode cX7_findFar 166 = .ok (.iconst 1, 1)) ∧ (decode cX7_findFar 167 = .ok (.istore_n 3, 1)) ∧ (decode cX7_findFar 168 = .ok (.aload_n 0, 1)) ∧ (decode cX7_findFar 169 = .ok (.getfield 64, 3)) ∧ (decode cX7_findFar 172 = .ok (.iload 6, 2)) ∧ (decode cX7_findFar 174 = .ok (.iaload, 1)) ∧ (decode cX7_findFar 175 = .ok (.iload 8, 2)) ∧ (decode cX7_findFar 177 = .ok (.iadd, 1)) ∧ (decode cX7_findFar 178 = .ok (.aload_n 0, 1)) := by decide +kernel
theorem dX7_findFar_162 : decode cX7_findFar 162 = .ok (.iload 8, 2) := qd3_118.1
theorem dX7_findFar_164 : decode cX7_findFar 164 = .ok (.iadd, 1) := qd3_118.2.1
theorem dX7_findFar_165 : decode cX7_findFar 165 = .ok (.iastore, 1) := qd3_118.2.2.1
theorem dX7_findFar_166 : decode cX7_findFar 166 = .ok (.iconst 1, 1) := qd3_118.2.2.2.1
theorem dX7_findFar_167 : decode cX7_findFar 167 = .ok (.istore_n 3, 1) := qd3_118.2.2.2.2.1
theorem dX7_findFar_168 : decode cX7_findFar 168 = .ok (.aload_n 0, 1) := qd3_118.2.2.2.2.2.1
theorem dX7_findFar_169 : decode cX7_findFar 169 = .ok (.getfield 64, 3) := qd3_118.2.2.2.2.2.2.1
theorem dX7_findFar_172 : decode cX7_findFar 172 = .ok (.iload 6, 2) := qd3_118.2.2.2.2.2.2.2.1
theorem dX7_findFar_174 : decode cX7_findFar 174 = .ok (.iaload, 1) := qd3_118.2.2.2.2.2.2.2.2.1
theorem dX7_findFar_175 : decode cX7_findFar 175 = .ok (.iload 8, 2) := qd3_118.2.2.2.2.2.2.2.2.2.1
theorem dX7_findFar_177 : decode cX7_findFar 177 = .ok (.iadd, 1) := qd3_118.2.2.2.2.2.2.2.2.2.2.1
theorem dX7_findFar_178 : decode cX7_findFar 178 = .ok (.aload_n 0, 1) := qd3_118.2.2.2.2.2.2.2.2.2.2.2
theorem qd3_119 : (decode cX7_findFar 179 = .ok (.getfield 64, 3)) ∧ (decode cX7_findFar 182 = .ok (.iload 7, 2)) ∧ (decode cX7_findFar 184 = .ok (.iaload, 1)) ∧ (decode cX7_findFar 185 = .ok (.if_icmp .ge 22, 3)) ∧ (decode cX7_findFar 188 = .ok (.aload_n 0, 1)) ∧ (decode cX7_findFar 189 = .ok (.getfield 64, 3)) ∧ (decode cX7_findFar 192 = .ok (.iload 7, 2)) ∧ (decode cX7_findFar 194 = .ok (.aload_n 0, 1)) ∧ (decode cX7_findFar 195 = .ok (.getfield 64, 3)) ∧ (decode cX7_findFar 198 = .ok (.iload 6, 2)) ∧ (decode cX7_findFar 200 = .ok (.iaload, 1)) ∧ (decode cX7_findFar 201 = .ok (.iload 8, 2)) := by decide +kernel
theorem dX7_findFar_179 : decode cX7_findFar 179 = .ok (.getfield 64, 3) := qd3_119.1
theorem dX7_findFar_182 : decode cX7_findFar 182 = .ok (.iload 7, 2) := qd3_119.2.1
theorem dX7_findFar_184 : decode cX7_findFar 184 = .ok (.iaload, 1) := qd3_119.2.2.1
theorem dX7_findFar_185 : decode cX7_findFar 185 = .ok (.if_icmp .ge 22, 3) := qd3_119.2.2.2.1
theorem dX7_findFar_188 : decode cX7_findFar 188 = .ok (.aload_n 0, 1) := qd3_119.2.2.2.2.1
theorem dX7_findFar_189 : decode cX7_findFar 189 = .ok (.getfield 64, 3) := qd3_119.2.2.2.2.2.1
theorem dX7_findFar_192 : decode cX7_findFar 192 = .ok (.iload 7, 2) := qd3_119.2.2.2.2.2.2.1
theorem dX7_findFar_194 : decode cX7_findFar 194 = .ok (.aload_n 0, 1) := qd3_119.2.2.2.2.2.2.2.1
theorem dX7_findFar_195 : decode cX7_findFar 195 = .ok (.getfield 64, 3) := qd3_119.2.2.2.2.2.2.2.2.1
theorem dX7_findFar_198 : decode cX7_findFar 198 = .ok (.iload 6, 2) := qd3_119.2.2.2.2.2.2.2.2.2.1
theorem dX7_findFar_200 : decode cX7_findFar 200 = .ok (.iaload, 1) := qd3_119.2.2.2.2.2.2.2.2.2.2.1
theorem dX7_findFar_201 : decode cX7_findFar 201 = .ok (.iload 8, 2) := qd3_119.2.2.2.2.2.2.2.2.2.2.2
theorem qd3_120 : (decode cX7_findFar 203 = .ok (.iadd, 1)) ∧ (decode cX7_findFar 204 = .ok (.iastore, 1)) ∧ (decode cX7_findFar 205 = .ok (.iconst 1, 1)) ∧ (decode cX7_findFar 206 = .ok (.istore_n 3, 1)) ∧ (decode cX7_findFar 207 = .ok (.iinc 5 1, 3)) ∧ (decode cX7_findFar 210 = .ok (.goto (-149), 3)) ∧ (decode cX7_findFar 213 = .ok (.iinc 4 1, 3)) ∧ (decode cX7_findFar 216 = .ok (.goto (-167), 3)) ∧ (decode cX7_findFar 219 = .ok (.iconst 0, 1)) ∧ (decode cX7_findFar 220 = .ok (.istore 4, 2)) ∧ (decode cX7_findFar 222 = .ok (.iload 4, 2)) ∧ (decode cX7_findFar 224 = .ok (.bipush 36, 2)) := by decide +kernel
theorem dX7_findFar_203 : decode cX7_findFar 203 = .ok (.iadd, 1) := qd3_120.1
theorem dX7_findFar_204 : decode cX7_findFar 204 = .ok (.iastore, 1) := qd3_120.2.1
theorem dX7_findFar_205 : decode cX7_findFar 205 = .ok (.iconst 1, 1) := qd3_120.2.2.1
theorem dX7_findFar_206 : decode cX7_findFar 206 = .ok (.istore_n 3, 1) := qd3_120.2.2.2.1
theorem dX7_findFar_207 : decode cX7_findFar 207 = .ok (.iinc 5 1, 3) := qd3_120.2.2.2.2.1
theorem dX7_findFar_210 : decode cX7_findFar 210 = .ok (.goto (-149), 3) := qd3_120.2.2.2.2.2.1
theorem dX7_findFar_213 : decode cX7_findFar 213 = .ok (.iinc 4 1, 3) := qd3_120.2.2.2.2.2.2.1
theorem dX7_findFar_216 : decode cX7_findFar 216 = .ok (.goto (-167), 3) := qd3_120.2.2.2.2.2.2.2.1
theorem dX7_findFar_219 : decode cX7_findFar 219 = .ok (.iconst 0, 1) := qd3_120.2.2.2.2.2.2.2.2.1
theorem dX7_findFar_220 : decode cX7_findFar 220 = .ok (.istore 4, 2) := qd3_120.2.2.2.2.2.2.2.2.2.1
theorem dX7_findFar_222 : decode cX7_findFar 222 = .ok (.iload 4, 2) := qd3_120.2.2.2.2.2.2.2.2.2.2.1
theorem dX7_findFar_224 : decode cX7_findFar 224 = .ok (.bipush 36, 2) := qd3_120.2.2.2.2.2.2.2.2.2.2.2
theorem qd3_121 : (decode cX7_findFar 226 = .ok (.if_icmp .ge 88, 3)) ∧ (decode cX7_findFar 229 = .ok (.iconst 0, 1)) ∧ (decode cX7_findFar 230 = .ok (.istore 5, 2)) ∧ (decode cX7_findFar 232 = .ok (.iload 5, 2)) ∧ (decode cX7_findFar 234 = .ok (.iconst 3, 1)) ∧ (decode cX7_findFar 235 = .ok (.if_icmp .ge 73, 3)) ∧ (decode cX7_findFar 238 = .ok (.iload 4, 2)) ∧ (decode cX7_findFar 240 = .ok (.iconst 3, 1)) ∧ (decode cX7_findFar 241 = .ok (.idiv, 1)) ∧ (decode cX7_findFar 242 = .ok (.iconst 3, 1)) ∧ (decode cX7_findFar 243 = .ok (.imul, 1)) ∧ (decode cX7_findFar 244 = .ok (.iload 5, 2)) := by decide +kernel
theorem dX7_findFar_226 : decode cX7_findFar 226 = .ok (.if_icmp .ge 88, 3) := qd3_121.1
theorem dX7_findFar_229 : decode cX7_findFar 229 = .ok (.iconst 0, 1) := qd3_121.2.1
theorem dX7_findFar_230 : decode cX7_findFar 230 = .ok (.istore 5, 2) := qd3_121.2.2.1
theorem dX7_findFar_232 : decode cX7_findFar 232 = .ok (.iload 5, 2) := qd3_121.2.2.2.1
theorem dX7_findFar_234 : decode cX7_findFar 234 = .ok (.iconst 3, 1) := qd3_121.2.2.2.2.1
theorem dX7_findFar_235 : decode cX7_findFar 235 = .ok (.if_icmp .ge 73, 3) := qd3_121.2.2.2.2.2.1
theorem dX7_findFar_238 : decode cX7_findFar 238 = .ok (.iload 4, 2) := qd3_121.2.2.2.2.2.2.1
theorem dX7_findFar_240 : decode cX7_findFar 240 = .ok (.iconst 3, 1) := qd3_121.2.2.2.2.2.2.2.1
theorem dX7_findFar_241 : decode cX7_findFar 241 = .ok (.idiv, 1) := qd3_121.2.2.2.2.2.2.2.2.1
theorem dX7_findFar_242 : decode cX7_findFar 242 = .ok (.iconst 3, 1) := qd3_121.2.2.2.2.2.2.2.2.2.1
theorem dX7_findFar_243 : decode cX7_findFar 243 = .ok (.imul, 1) := qd3_121.2.2.2.2.2.2.2.2.2.2.1
theorem dX7_findFar_244 : decode cX7_findFar 244 = .ok (.iload 5, 2) := qd3_121.2.2.2.2.2.2.2.2.2.2.2
theorem qd3_122 : (decode cX7_findFar 246 = .ok (.iadd, 1)) ∧ (decode cX7_findFar 247 = .ok (.istore 6, 2)) ∧ (decode cX7_findFar 249 = .ok (.aload_n 0, 1)) ∧ (decode cX7_findFar 250 = .ok (.getfield 64, 3)) ∧ (decode cX7_findFar 253 = .ok (.iload 6, 2)) ∧ (decode cX7_findFar 255 = .ok (.iaload, 1)) ∧ (decode cX7_findFar 256 = .ok (.aload_n 0, 1)) ∧ (decode cX7_findFar 257 = .ok (.getfield 42, 3)) ∧ (decode cX7_findFar 260 = .ok (.iload 4, 2)) ∧ (decode cX7_findFar 262 = .ok (.iconst 3, 1)) ∧ (decode cX7_findFar 263 = .ok (.idiv, 1)) ∧ (decode cX7_findFar 264 = .ok (.iaload, 1)) := by decide +kernel
theorem dX7_findFar_246 : decode cX7_findFar 246 = .ok (.iadd, 1) := qd3_122.1
theorem dX7_findFar_247 : decode cX7_findFar 247 = .ok (.istore 6, 2) := qd3_122.2.1
theorem dX7_findFar_249 : decode cX7_findFar 249 = .ok (.aload_n 0, 1) := qd3_122.2.2.1
theorem dX7_findFar_250 : decode cX7_findFar 250 = .ok (.getfield 64, 3) := qd3_122.2.2.2.1
theorem dX7_findFar_253 : decode cX7_findFar 253 = .ok (.iload 6, 2) := qd3_122.2.2.2.2.1
theorem dX7_findFar_255 : decode cX7_findFar 255 = .ok (.iaload, 1) := qd3_122.2.2.2.2.2.1
theorem dX7_findFar_256 : decode cX7_findFar 256 = .ok (.aload_n 0, 1) := qd3_122.2.2.2.2.2.2.1
theorem dX7_findFar_257 : decode cX7_findFar 257 = .ok (.getfield 42, 3) := qd3_122.2.2.2.2.2.2.2.1
theorem dX7_findFar_260 : decode cX7_findFar 260 = .ok (.iload 4, 2) := qd3_122.2.2.2.2.2.2.2.2.1
theorem dX7_findFar_262 : decode cX7_findFar 262 = .ok (.iconst 3, 1) := qd3_122.2.2.2.2.2.2.2.2.2.1
theorem dX7_findFar_263 : decode cX7_findFar 263 = .ok (.idiv, 1) := qd3_122.2.2.2.2.2.2.2.2.2.2.1
theorem dX7_findFar_264 : decode cX7_findFar 264 = .ok (.iaload, 1) := qd3_122.2.2.2.2.2.2.2.2.2.2.2
theorem qd3_123 : (decode cX7_findFar 265 = .ok (.iadd, 1)) ∧ (decode cX7_findFar 266 = .ok (.aload_n 0, 1)) ∧ (decode cX7_findFar 267 = .ok (.getfield 64, 3)) ∧ (decode cX7_findFar 270 = .ok (.iload 4, 2)) ∧ (decode cX7_findFar 272 = .ok (.iaload, 1)) ∧ (decode cX7_findFar 273 = .ok (.if_icmp .ge 29, 3)) ∧ (decode cX7_findFar 276 = .ok (.aload_n 0, 1)) ∧ (decode cX7_findFar 277 = .ok (.getfield 64, 3)) ∧ (decode cX7_findFar 280 = .ok (.iload 4, 2)) ∧ (decode cX7_findFar 282 = .ok (.aload_n 0, 1)) ∧ (decode cX7_findFar 283 = .ok (.getfield 64, 3)) ∧ (decode cX7_findFar 286 = .ok (.iload 6, 2)) := by decide +kernel
theorem dX7_findFar_265 : decode cX7_findFar 265 = .ok (.iadd, 1) := qd3_123.1
theorem dX7_findFar_266 : decode cX7_findFar 266 = .ok (.aload_n 0, 1) := qd3_123.2.1
theorem dX7_findFar_267 : decode cX7_findFar 267 = .ok (.getfield 64, 3) := qd3_123.2.2.1
theorem dX7_findFar_270 : decode cX7_findFar 270 = .ok (.iload 4, 2) := qd3_123.2.2.2.1
theorem dX7_findFar_272 : decode cX7_findFar 272 = .ok (.iaload, 1) := qd3_123.2.2.2.2.1
theorem dX7_findFar_273 : decode cX7_findFar 273 = .ok (.if_icmp .ge 29, 3) := qd3_123.2.2.2.2.2.1
theorem dX7_findFar_276 : decode cX7_findFar 276 = .ok (.aload_n 0, 1) := qd3_123.2.2.2.2.2.2.1
theorem dX7_findFar_277 : decode cX7_findFar 277 = .ok (.getfield 64, 3) := qd3_123.2.2.2.2.2.2.2.1
theorem dX7_findFar_280 : decode cX7_findFar 280 = .ok (.iload 4, 2) := qd3_123.2.2.2.2.2.2.2.2.1
theorem dX7_findFar_282 : decode cX7_findFar 282 = .ok (.aload_n 0, 1) := qd3_123.2.2.2.2.2.2.2.2.2.1
theorem dX7_findFar_283 : decode cX7_findFar 283 = .ok (.getfield 64, 3) := qd3_123.2.2.2.2.2.2.2.2.2.2.1
theorem dX7_findFar_286 : decode cX7_findFar 286 = .ok (.iload 6, 2) := qd3_123.2.2.2.2.2.2.2.2.2.2.2
theorem qd3_124 : (decode cX7_findFar 288 = .ok (.iaload, 1)) ∧ (decode cX7_findFar 289 = .ok (.aload_n 0, 1)) ∧ (decode cX7_findFar 290 = .ok (.getfield 42, 3)) ∧ (decode cX7_findFar 293 = .ok (.iload 4, 2)) ∧ (decode cX7_findFar 295 = .ok (.iconst 3, 1)) ∧ (decode cX7_findFar 296 = .ok (.idiv, 1)) ∧ (decode cX7_findFar 297 = .ok (.iaload, 1)) ∧ (decode cX7_findFar 298 = .ok (.iadd, 1)) ∧ (decode cX7_findFar 299 = .ok (.iastore, 1)) ∧ (decode cX7_findFar 300 = .ok (.iconst 1, 1)) ∧ (decode cX7_findFar 301 = .ok (.istore_n 3, 1)) ∧ (decode cX7_findFar 302 = .ok (.iinc 5 1, 3)) := by decide +kernel
theorem dX7_findFar_288 : decode cX7_findFar 288 = .ok (.iaload, 1) := qd3_124.1
theorem dX7_findFar_289 : decode cX7_findFar 289 = .ok (.aload_n 0, 1) := qd3_124.2.1
theorem dX7_findFar_290 : decode cX7_findFar 290 = .ok (.getfield 42, 3) := qd3_124.2.2.1
theorem dX7_findFar_293 : decode cX7_findFar 293 = .ok (.iload 4, 2) := qd3_124.2.2.2.1
theorem dX7_findFar_295 : decode cX7_findFar 295 = .ok (.iconst 3, 1) := qd3_124.2.2.2.2.1
theorem dX7_findFar_296 : decode cX7_findFar 296 = .ok (.idiv, 1) := qd3_124.2.2.2.2.2.1
theorem dX7_findFar_297 : decode cX7_findFar 297 = .ok (.iaload, 1) := qd3_124.2.2.2.2.2.2.1
theorem dX7_findFar_298 : decode cX7_findFar 298 = .ok (.iadd, 1) := qd3_124.2.2.2.2.2.2.2.1
theorem dX7_findFar_299 : decode cX7_findFar 299 = .ok (.iastore, 1) := qd3_124.2.2.2.2.2.2.2.2.1
theorem dX7_findFar_300 : decode cX7_findFar 300 = .ok (.iconst 1, 1) := qd3_124.2.2.2.2.2.2.2.2.2.1
theorem dX7_findFar_301 : decode cX7_findFar 301 = .ok (.istore_n 3, 1) := qd3_124.2.2.2.2.2.2.2.2.2.2.1
theorem dX7_findFar_302 : decode cX7_findFar 302 = .ok (.iinc 5 1, 3) := qd3_124.2.2.2.2.2.2.2.2.2.2.2
theorem qd3_125 : (decode cX7_findFar 305 = .ok (.goto (-73), 3)) ∧ (decode cX7_findFar 308 = .ok (.iinc 4 1, 3)) ∧ (decode cX7_findFar 311 = .ok (.goto (-89), 3)) ∧ (decode cX7_findFar 314 = .ok (.goto (-274), 3)) ∧ (decode cX7_findFar 317 = .ok (.return_, 1)) := by decide +kernel
theorem dX7_findFar_305 : decode cX7_findFar 305 = .ok (.goto (-73), 3) := qd3_125.1
theorem dX7_findFar_308 : decode cX7_findFar 308 = .ok (.iinc 4 1, 3) := qd3_125.2.1
theorem dX7_findFar_311 : decode cX7_findFar 311 = .ok (.goto (-89), 3) := qd3_125.2.2.1
theorem dX7_findFar_314 : decode cX7_findFar 314 = .ok (.goto (-274), 3) := qd3_125.2.2.2.1
theorem dX7_findFar_317 : decode cX7_findFar 317 = .ok (.return_, 1) := qd3_125.2.2.2.2
theorem qd3_126 : (decode cX7_least 0 = .ok (.ldc 254, 2)) ∧ (decode cX7_least 2 = .ok (.istore_n 2, 1)) ∧ (decode cX7_least 3 = .ok (.iconst 0, 1)) ∧ (decode cX7_least 4 = .ok (.istore_n 3, 1)) ∧ (decode cX7_least 5 = .ok (.iload_n 3, 1)) ∧ (decode cX7_least 6 = .ok (.iconst 3, 1)) ∧ (decode cX7_least 7 = .ok (.if_icmp .ge 38, 3)) ∧ (decode cX7_least 10 = .ok (.aload_n 0, 1)) ∧ (decode cX7_least 11 = .ok (.getfield 64, 3)) ∧ (decode cX7_least 14 = .ok (.iconst 3, 1)) ∧ (decode cX7_least 15 = .ok (.iload_n 1, 1)) ∧ (decode cX7_least 16 = .ok (.imul, 1)) := by decide +kernel
theorem dX7_least_0 : decode cX7_least 0 = .ok (.ldc 254, 2) := qd3_126.1
theorem dX7_least_2 : decode cX7_least 2 = .ok (.istore_n 2, 1) := qd3_126.2.1
theorem dX7_least_3 : decode cX7_least 3 = .ok (.iconst 0, 1) := qd3_126.2.2.1
theorem dX7_least_4 : decode cX7_least 4 = .ok (.istore_n 3, 1) := qd3_126.2.2.2.1
theorem dX7_least_5 : decode cX7_least 5 = .ok (.iload_n 3, 1) := qd3_126.2.2.2.2.1
theorem dX7_least_6 : decode cX7_least 6 = .ok (.iconst 3, 1) := qd3_126.2.2.2.2.2.1
theorem dX7_least_7 : decode cX7_least 7 = .ok (.if_icmp .ge 38, 3) := qd3_126.2.2.2.2.2.2.1
theorem dX7_least_10 : decode cX7_least 10 = .ok (.aload_n 0, 1) := qd3_126.2.2.2.2.2.2.2.1
theorem dX7_least_11 : decode cX7_least 11 = .ok (.getfield 64, 3) := qd3_126.2.2.2.2.2.2.2.2.1
theorem dX7_least_14 : decode cX7_least 14 = .ok (.iconst 3, 1) := qd3_126.2.2.2.2.2.2.2.2.2.1
theorem dX7_least_15 : decode cX7_least 15 = .ok (.iload_n 1, 1) := qd3_126.2.2.2.2.2.2.2.2.2.2.1
theorem dX7_least_16 : decode cX7_least 16 = .ok (.imul, 1) := qd3_126.2.2.2.2.2.2.2.2.2.2.2
theorem qd3_127 : (decode cX7_least 17 = .ok (.iload_n 3, 1)) ∧ (decode cX7_least 18 = .ok (.iadd, 1)) ∧ (decode cX7_least 19 = .ok (.iaload, 1)) ∧ (decode cX7_least 20 = .ok (.iload_n 2, 1)) ∧ (decode cX7_least 21 = .ok (.if_icmp .ge 16, 3)) ∧ (decode cX7_least 24 = .ok (.aload_n 0, 1)) ∧ (decode cX7_least 25 = .ok (.getfield 64, 3)) ∧ (decode cX7_least 28 = .ok (.iconst 3, 1)) ∧ (decode cX7_least 29 = .ok (.iload_n 1, 1)) ∧ (decode cX7_least 30 = .ok (.imul, 1)) ∧ (decode cX7_least 31 = .ok (.iload_n 3, 1)) ∧ (decode cX7_least 32 = .ok (.iadd, 1)) := by decide +kernel
theorem dX7_least_17 : decode cX7_least 17 = .ok (.iload_n 3, 1) := qd3_127.1
theorem dX7_least_18 : decode cX7_least 18 = .ok (.iadd, 1) := qd3_127.2.1
theorem dX7_least_19 : decode cX7_least 19 = .ok (.iaload, 1) := qd3_127.2.2.1
theorem dX7_least_20 : decode cX7_least 20 = .ok (.iload_n 2, 1) := qd3_127.2.2.2.1
theorem dX7_least_21 : decode cX7_least 21 = .ok (.if_icmp .ge 16, 3) := qd3_127.2.2.2.2.1
theorem dX7_least_24 : decode cX7_least 24 = .ok (.aload_n 0, 1) := qd3_127.2.2.2.2.2.1
theorem dX7_least_25 : decode cX7_least 25 = .ok (.getfield 64, 3) := qd3_127.2.2.2.2.2.2.1
theorem dX7_least_28 : decode cX7_least 28 = .ok (.iconst 3, 1) := qd3_127.2.2.2.2.2.2.2.1
theorem dX7_least_29 : decode cX7_least 29 = .ok (.iload_n 1, 1) := qd3_127.2.2.2.2.2.2.2.2.1
theorem dX7_least_30 : decode cX7_least 30 = .ok (.imul, 1) := qd3_127.2.2.2.2.2.2.2.2.2.1
theorem dX7_least_31 : decode cX7_least 31 = .ok (.iload_n 3, 1) := qd3_127.2.2.2.2.2.2.2.2.2.2.1
theorem dX7_least_32 : decode cX7_least 32 = .ok (.iadd, 1) := qd3_127.2.2.2.2.2.2.2.2.2.2.2
theorem qd3_128 : (decode cX7_least 33 = .ok (.iaload, 1)) ∧ (decode cX7_least 34 = .ok (.goto 4, 3)) ∧ (decode cX7_least 37 = .ok (.iload_n 2, 1)) ∧ (decode cX7_least 38 = .ok (.istore_n 2, 1)) ∧ (decode cX7_least 39 = .ok (.iinc 3 1, 3)) ∧ (decode cX7_least 42 = .ok (.goto (-37), 3)) ∧ (decode cX7_least 45 = .ok (.iload_n 2, 1)) ∧ (decode cX7_least 46 = .ok (.ireturn, 1)) := by decide +kernel
theorem dX7_least_33 : decode cX7_least 33 = .ok (.iaload, 1) := qd3_128.1
theorem dX7_least_34 : decode cX7_least 34 = .ok (.goto 4, 3) := qd3_128.2.1
theorem dX7_least_37 : decode cX7_least 37 = .ok (.iload_n 2, 1) := qd3_128.2.2.1
theorem dX7_least_38 : decode cX7_least 38 = .ok (.istore_n 2, 1) := qd3_128.2.2.2.1
theorem dX7_least_39 : decode cX7_least 39 = .ok (.iinc 3 1, 3) := qd3_128.2.2.2.2.1
theorem dX7_least_42 : decode cX7_least 42 = .ok (.goto (-37), 3) := qd3_128.2.2.2.2.2.1
theorem dX7_least_45 : decode cX7_least 45 = .ok (.iload_n 2, 1) := qd3_128.2.2.2.2.2.2.1
theorem dX7_least_46 : decode cX7_least 46 = .ok (.ireturn, 1) := qd3_128.2.2.2.2.2.2.2
theorem qd3_129 : (decode cX7_stepTo 0 = .ok (.iload_n 1, 1)) ∧ (decode cX7_stepTo 1 = .ok (.iconst 3, 1)) ∧ (decode cX7_stepTo 2 = .ok (.irem, 1)) ∧ (decode cX7_stepTo 3 = .ok (.istore_n 3, 1)) ∧ (decode cX7_stepTo 4 = .ok (.iload_n 2, 1)) ∧ (decode cX7_stepTo 5 = .ok (.iconst 3, 1)) ∧ (decode cX7_stepTo 6 = .ok (.if_icmp .ge 49, 3)) ∧ (decode cX7_stepTo 9 = .ok (.iload_n 1, 1)) ∧ (decode cX7_stepTo 10 = .ok (.iconst 3, 1)) ∧ (decode cX7_stepTo 11 = .ok (.idiv, 1)) ∧ (decode cX7_stepTo 12 = .ok (.iconst 3, 1)) ∧ (decode cX7_stepTo 13 = .ok (.imul, 1)) := by decide +kernel
theorem dX7_stepTo_0 : decode cX7_stepTo 0 = .ok (.iload_n 1, 1) := qd3_129.1
theorem dX7_stepTo_1 : decode cX7_stepTo 1 = .ok (.iconst 3, 1) := qd3_129.2.1
theorem dX7_stepTo_2 : decode cX7_stepTo 2 = .ok (.irem, 1) := qd3_129.2.2.1
theorem dX7_stepTo_3 : decode cX7_stepTo 3 = .ok (.istore_n 3, 1) := qd3_129.2.2.2.1
theorem dX7_stepTo_4 : decode cX7_stepTo 4 = .ok (.iload_n 2, 1) := qd3_129.2.2.2.2.1
theorem dX7_stepTo_5 : decode cX7_stepTo 5 = .ok (.iconst 3, 1) := qd3_129.2.2.2.2.2.1
theorem dX7_stepTo_6 : decode cX7_stepTo 6 = .ok (.if_icmp .ge 49, 3) := qd3_129.2.2.2.2.2.2.1
theorem dX7_stepTo_9 : decode cX7_stepTo 9 = .ok (.iload_n 1, 1) := qd3_129.2.2.2.2.2.2.2.1
theorem dX7_stepTo_10 : decode cX7_stepTo 10 = .ok (.iconst 3, 1) := qd3_129.2.2.2.2.2.2.2.2.1
theorem dX7_stepTo_11 : decode cX7_stepTo 11 = .ok (.idiv, 1) := qd3_129.2.2.2.2.2.2.2.2.2.1
theorem dX7_stepTo_12 : decode cX7_stepTo 12 = .ok (.iconst 3, 1) := qd3_129.2.2.2.2.2.2.2.2.2.2.1
theorem dX7_stepTo_13 : decode cX7_stepTo 13 = .ok (.imul, 1) := qd3_129.2.2.2.2.2.2.2.2.2.2.2
theorem qd3_130 : (decode cX7_stepTo 14 = .ok (.iload_n 2, 1)) ∧ (decode cX7_stepTo 15 = .ok (.iadd, 1)) ∧ (decode cX7_stepTo 16 = .ok (.istore 4, 2)) ∧ (decode cX7_stepTo 18 = .ok (.iload_n 2, 1)) ∧ (decode cX7_stepTo 19 = .ok (.iload_n 3, 1)) ∧ (decode cX7_stepTo 20 = .ok (.if_icmp .eq 33, 3)) ∧ (decode cX7_stepTo 23 = .ok (.aload_n 0, 1)) ∧ (decode cX7_stepTo 24 = .ok (.getfield 64, 3)) ∧ (decode cX7_stepTo 27 = .ok (.iload 4, 2)) ∧ (decode cX7_stepTo 29 = .ok (.iaload, 1)) ∧ (decode cX7_stepTo 30 = .ok (.aload_n 0, 1)) ∧ (decode cX7_stepTo 31 = .ok (.getfield 42, 3)) := by decide +kernel
theorem dX7_stepTo_14 : decode cX7_stepTo 14 = .ok (.iload_n 2, 1) := qd3_130.1
theorem dX7_stepTo_15 : decode cX7_stepTo 15 = .ok (.iadd, 1) := qd3_130.2.1
theorem dX7_stepTo_16 : decode cX7_stepTo 16 = .ok (.istore 4, 2) := qd3_130.2.2.1
theorem dX7_stepTo_18 : decode cX7_stepTo 18 = .ok (.iload_n 2, 1) := qd3_130.2.2.2.1
theorem dX7_stepTo_19 : decode cX7_stepTo 19 = .ok (.iload_n 3, 1) := qd3_130.2.2.2.2.1
theorem dX7_stepTo_20 : decode cX7_stepTo 20 = .ok (.if_icmp .eq 33, 3) := qd3_130.2.2.2.2.2.1
theorem dX7_stepTo_23 : decode cX7_stepTo 23 = .ok (.aload_n 0, 1) := qd3_130.2.2.2.2.2.2.1
theorem dX7_stepTo_24 : decode cX7_stepTo 24 = .ok (.getfield 64, 3) := qd3_130.2.2.2.2.2.2.2.1
theorem dX7_stepTo_27 : decode cX7_stepTo 27 = .ok (.iload 4, 2) := qd3_130.2.2.2.2.2.2.2.2.1
theorem dX7_stepTo_29 : decode cX7_stepTo 29 = .ok (.iaload, 1) := qd3_130.2.2.2.2.2.2.2.2.2.1
theorem dX7_stepTo_30 : decode cX7_stepTo 30 = .ok (.aload_n 0, 1) := qd3_130.2.2.2.2.2.2.2.2.2.2.1
theorem dX7_stepTo_31 : decode cX7_stepTo 31 = .ok (.getfield 42, 3) := qd3_130.2.2.2.2.2.2.2.2.2.2.2
theorem qd3_131 : (decode cX7_stepTo 34 = .ok (.iload_n 1, 1)) ∧ (decode cX7_stepTo 35 = .ok (.iconst 3, 1)) ∧ (decode cX7_stepTo 36 = .ok (.idiv, 1)) ∧ (decode cX7_stepTo 37 = .ok (.iaload, 1)) ∧ (decode cX7_stepTo 38 = .ok (.iadd, 1)) ∧ (decode cX7_stepTo 39 = .ok (.aload_n 0, 1)) ∧ (decode cX7_stepTo 40 = .ok (.getfield 64, 3)) ∧ (decode cX7_stepTo 43 = .ok (.iload_n 1, 1)) ∧ (decode cX7_stepTo 44 = .ok (.iaload, 1)) ∧ (decode cX7_stepTo 45 = .ok (.if_icmp .ne 8, 3)) ∧ (decode cX7_stepTo 48 = .ok (.iload 4, 2)) ∧ (decode cX7_stepTo 50 = .ok (.goto 4, 3)) := by decide +kernel
theorem dX7_stepTo_34 : decode cX7_stepTo 34 = .ok (.iload_n 1, 1) := qd3_131.1
theorem dX7_stepTo_35 : decode cX7_stepTo 35 = .ok (.iconst 3, 1) := qd3_131.2.1
theorem dX7_stepTo_36 : decode cX7_stepTo 36 = .ok (.idiv, 1) := qd3_131.2.2.1
theorem dX7_stepTo_37 : decode cX7_stepTo 37 = .ok (.iaload, 1) := qd3_131.2.2.2.1
theorem dX7_stepTo_38 : decode cX7_stepTo 38 = .ok (.iadd, 1) := qd3_131.2.2.2.2.1
theorem dX7_stepTo_39 : decode cX7_stepTo 39 = .ok (.aload_n 0, 1) := qd3_131.2.2.2.2.2.1
theorem dX7_stepTo_40 : decode cX7_stepTo 40 = .ok (.getfield 64, 3) := qd3_131.2.2.2.2.2.2.1
theorem dX7_stepTo_43 : decode cX7_stepTo 43 = .ok (.iload_n 1, 1) := qd3_131.2.2.2.2.2.2.2.1
theorem dX7_stepTo_44 : decode cX7_stepTo 44 = .ok (.iaload, 1) := qd3_131.2.2.2.2.2.2.2.2.1
theorem dX7_stepTo_45 : decode cX7_stepTo 45 = .ok (.if_icmp .ne 8, 3) := qd3_131.2.2.2.2.2.2.2.2.2.1
theorem dX7_stepTo_48 : decode cX7_stepTo 48 = .ok (.iload 4, 2) := qd3_131.2.2.2.2.2.2.2.2.2.2.1
theorem dX7_stepTo_50 : decode cX7_stepTo 50 = .ok (.goto 4, 3) := qd3_131.2.2.2.2.2.2.2.2.2.2.2
theorem qd3_132 : (decode cX7_stepTo 53 = .ok (.iconst (-1), 1)) ∧ (decode cX7_stepTo 54 = .ok (.ireturn, 1)) ∧ (decode cX7_stepTo 55 = .ok (.iload_n 2, 1)) ∧ (decode cX7_stepTo 56 = .ok (.iconst 3, 1)) ∧ (decode cX7_stepTo 57 = .ok (.isub, 1)) ∧ (decode cX7_stepTo 58 = .ok (.istore 4, 2)) ∧ (decode cX7_stepTo 60 = .ok (.aload_n 0, 1)) ∧ (decode cX7_stepTo 61 = .ok (.iload 4, 2)) ∧ (decode cX7_stepTo 63 = .ok (.iload_n 3, 1)) ∧ (decode cX7_stepTo 64 = .ok (.invokevirtual 255, 3)) ∧ (decode cX7_stepTo 67 = .ok (.ifCond .eq 33, 3)) ∧ (decode cX7_stepTo 70 = .ok (.aload_n 0, 1)) := by decide +kernel
theorem dX7_stepTo_53 : decode cX7_stepTo 53 = .ok (.iconst (-1), 1) := qd3_132.1
theorem dX7_stepTo_54 : decode cX7_stepTo 54 = .ok (.ireturn, 1) := qd3_132.2.1
theorem dX7_stepTo_55 : decode cX7_stepTo 55 = .ok (.iload_n 2, 1) := qd3_132.2.2.1
theorem dX7_stepTo_56 : decode cX7_stepTo 56 = .ok (.iconst 3, 1) := qd3_132.2.2.2.1
theorem dX7_stepTo_57 : decode cX7_stepTo 57 = .ok (.isub, 1) := qd3_132.2.2.2.2.1
theorem dX7_stepTo_58 : decode cX7_stepTo 58 = .ok (.istore 4, 2) := qd3_132.2.2.2.2.2.1
theorem dX7_stepTo_60 : decode cX7_stepTo 60 = .ok (.aload_n 0, 1) := qd3_132.2.2.2.2.2.2.1
theorem dX7_stepTo_61 : decode cX7_stepTo 61 = .ok (.iload 4, 2) := qd3_132.2.2.2.2.2.2.2.1
theorem dX7_stepTo_63 : decode cX7_stepTo 63 = .ok (.iload_n 3, 1) := qd3_132.2.2.2.2.2.2.2.2.1
theorem dX7_stepTo_64 : decode cX7_stepTo 64 = .ok (.invokevirtual 255, 3) := qd3_132.2.2.2.2.2.2.2.2.2.1
theorem dX7_stepTo_67 : decode cX7_stepTo 67 = .ok (.ifCond .eq 33, 3) := qd3_132.2.2.2.2.2.2.2.2.2.2.1
theorem dX7_stepTo_70 : decode cX7_stepTo 70 = .ok (.aload_n 0, 1) := qd3_132.2.2.2.2.2.2.2.2.2.2.2
theorem qd3_133 : (decode cX7_stepTo 71 = .ok (.getfield 39, 3)) ∧ (decode cX7_stepTo 74 = .ok (.iload 4, 2)) ∧ (decode cX7_stepTo 76 = .ok (.aaload, 1)) ∧ (decode cX7_stepTo 77 = .ok (.iconst 0, 1)) ∧ (decode cX7_stepTo 78 = .ok (.iaload, 1)) ∧ (decode cX7_stepTo 79 = .ok (.iload_n 1, 1)) ∧ (decode cX7_stepTo 80 = .ok (.iconst 3, 1)) ∧ (decode cX7_stepTo 81 = .ok (.idiv, 1)) ∧ (decode cX7_stepTo 82 = .ok (.if_icmp .eq 20, 3)) ∧ (decode cX7_stepTo 85 = .ok (.aload_n 0, 1)) ∧ (decode cX7_stepTo 86 = .ok (.getfield 39, 3)) ∧ (decode cX7_stepTo 89 = .ok (.iload 4, 2)) := by decide +kernel
theorem dX7_stepTo_71 : decode cX7_stepTo 71 = .ok (.getfield 39, 3) := qd3_133.1
theorem dX7_stepTo_74 : decode cX7_stepTo 74 = .ok (.iload 4, 2) := qd3_133.2.1
theorem dX7_stepTo_76 : decode cX7_stepTo 76 = .ok (.aaload, 1) := qd3_133.2.2.1
theorem dX7_stepTo_77 : decode cX7_stepTo 77 = .ok (.iconst 0, 1) := qd3_133.2.2.2.1
theorem dX7_stepTo_78 : decode cX7_stepTo 78 = .ok (.iaload, 1) := qd3_133.2.2.2.2.1
theorem dX7_stepTo_79 : decode cX7_stepTo 79 = .ok (.iload_n 1, 1) := qd3_133.2.2.2.2.2.1
theorem dX7_stepTo_80 : decode cX7_stepTo 80 = .ok (.iconst 3, 1) := qd3_133.2.2.2.2.2.2.1
theorem dX7_stepTo_81 : decode cX7_stepTo 81 = .ok (.idiv, 1) := qd3_133.2.2.2.2.2.2.2.1
theorem dX7_stepTo_82 : decode cX7_stepTo 82 = .ok (.if_icmp .eq 20, 3) := qd3_133.2.2.2.2.2.2.2.2.1
theorem dX7_stepTo_85 : decode cX7_stepTo 85 = .ok (.aload_n 0, 1) := qd3_133.2.2.2.2.2.2.2.2.2.1
theorem dX7_stepTo_86 : decode cX7_stepTo 86 = .ok (.getfield 39, 3) := qd3_133.2.2.2.2.2.2.2.2.2.2.1
theorem dX7_stepTo_89 : decode cX7_stepTo 89 = .ok (.iload 4, 2) := qd3_133.2.2.2.2.2.2.2.2.2.2.2
theorem qd3_134 : (decode cX7_stepTo 91 = .ok (.aaload, 1)) ∧ (decode cX7_stepTo 92 = .ok (.iconst 1, 1)) ∧ (decode cX7_stepTo 93 = .ok (.iaload, 1)) ∧ (decode cX7_stepTo 94 = .ok (.iload_n 1, 1)) ∧ (decode cX7_stepTo 95 = .ok (.iconst 3, 1)) ∧ (decode cX7_stepTo 96 = .ok (.idiv, 1)) ∧ (decode cX7_stepTo 97 = .ok (.if_icmp .eq 5, 3)) ∧ (decode cX7_stepTo 100 = .ok (.iconst (-1), 1)) ∧ (decode cX7_stepTo 101 = .ok (.ireturn, 1)) ∧ (decode cX7_stepTo 102 = .ok (.iconst 3, 1)) ∧ (decode cX7_stepTo 103 = .ok (.aload_n 0, 1)) ∧ (decode cX7_stepTo 104 = .ok (.getfield 39, 3)) := by decide +kernel
theorem dX7_stepTo_91 : decode cX7_stepTo 91 = .ok (.aaload, 1) := qd3_134.1
theorem dX7_stepTo_92 : decode cX7_stepTo 92 = .ok (.iconst 1, 1) := qd3_134.2.1
theorem dX7_stepTo_93 : decode cX7_stepTo 93 = .ok (.iaload, 1) := qd3_134.2.2.1
theorem dX7_stepTo_94 : decode cX7_stepTo 94 = .ok (.iload_n 1, 1) := qd3_134.2.2.2.1
theorem dX7_stepTo_95 : decode cX7_stepTo 95 = .ok (.iconst 3, 1) := qd3_134.2.2.2.2.1
theorem dX7_stepTo_96 : decode cX7_stepTo 96 = .ok (.idiv, 1) := qd3_134.2.2.2.2.2.1
theorem dX7_stepTo_97 : decode cX7_stepTo 97 = .ok (.if_icmp .eq 5, 3) := qd3_134.2.2.2.2.2.2.1
theorem dX7_stepTo_100 : decode cX7_stepTo 100 = .ok (.iconst (-1), 1) := qd3_134.2.2.2.2.2.2.2.1
theorem dX7_stepTo_101 : decode cX7_stepTo 101 = .ok (.ireturn, 1) := qd3_134.2.2.2.2.2.2.2.2.1
theorem dX7_stepTo_102 : decode cX7_stepTo 102 = .ok (.iconst 3, 1) := qd3_134.2.2.2.2.2.2.2.2.2.1
theorem dX7_stepTo_103 : decode cX7_stepTo 103 = .ok (.aload_n 0, 1) := qd3_134.2.2.2.2.2.2.2.2.2.2.1
theorem dX7_stepTo_104 : decode cX7_stepTo 104 = .ok (.getfield 39, 3) := qd3_134.2.2.2.2.2.2.2.2.2.2.2
theorem qd3_135 : (decode cX7_stepTo 107 = .ok (.iload 4, 2)) ∧ (decode cX7_stepTo 109 = .ok (.aaload, 1)) ∧ (decode cX7_stepTo 110 = .ok (.iconst 0, 1)) ∧ (decode cX7_stepTo 111 = .ok (.iaload, 1)) ∧ (decode cX7_stepTo 112 = .ok (.iload_n 1, 1)) ∧ (decode cX7_stepTo 113 = .ok (.iconst 3, 1)) ∧ (decode cX7_stepTo 114 = .ok (.idiv, 1)) ∧ (decode cX7_stepTo 115 = .ok (.if_icmp .ne 15, 3)) ∧ (decode cX7_stepTo 118 = .ok (.aload_n 0, 1)) ∧ (decode cX7_stepTo 119 = .ok (.getfield 39, 3)) ∧ (decode cX7_stepTo 122 = .ok (.iload 4, 2)) ∧ (decode cX7_stepTo 124 = .ok (.aaload, 1)) := by decide +kernel
theorem dX7_stepTo_107 : decode cX7_stepTo 107 = .ok (.iload 4, 2) := qd3_135.1
theorem dX7_stepTo_109 : decode cX7_stepTo 109 = .ok (.aaload, 1) := qd3_135.2.1
theorem dX7_stepTo_110 : decode cX7_stepTo 110 = .ok (.iconst 0, 1) := qd3_135.2.2.1
theorem dX7_stepTo_111 : decode cX7_stepTo 111 = .ok (.iaload, 1) := qd3_135.2.2.2.1
theorem dX7_stepTo_112 : decode cX7_stepTo 112 = .ok (.iload_n 1, 1) := qd3_135.2.2.2.2.1
theorem dX7_stepTo_113 : decode cX7_stepTo 113 = .ok (.iconst 3, 1) := qd3_135.2.2.2.2.2.1
theorem dX7_stepTo_114 : decode cX7_stepTo 114 = .ok (.idiv, 1) := qd3_135.2.2.2.2.2.2.1
theorem dX7_stepTo_115 : decode cX7_stepTo 115 = .ok (.if_icmp .ne 15, 3) := qd3_135.2.2.2.2.2.2.2.1
theorem dX7_stepTo_118 : decode cX7_stepTo 118 = .ok (.aload_n 0, 1) := qd3_135.2.2.2.2.2.2.2.2.1
theorem dX7_stepTo_119 : decode cX7_stepTo 119 = .ok (.getfield 39, 3) := qd3_135.2.2.2.2.2.2.2.2.2.1
theorem dX7_stepTo_122 : decode cX7_stepTo 122 = .ok (.iload 4, 2) := qd3_135.2.2.2.2.2.2.2.2.2.2.1
theorem dX7_stepTo_124 : decode cX7_stepTo 124 = .ok (.aaload, 1) := qd3_135.2.2.2.2.2.2.2.2.2.2.2
theorem qd3_136 : (decode cX7_stepTo 125 = .ok (.iconst 1, 1)) ∧ (decode cX7_stepTo 126 = .ok (.iaload, 1)) ∧ (decode cX7_stepTo 127 = .ok (.goto 12, 3)) ∧ (decode cX7_stepTo 130 = .ok (.aload_n 0, 1)) ∧ (decode cX7_stepTo 131 = .ok (.getfield 39, 3)) ∧ (decode cX7_stepTo 134 = .ok (.iload 4, 2)) ∧ (decode cX7_stepTo 136 = .ok (.aaload, 1)) ∧ (decode cX7_stepTo 137 = .ok (.iconst 0, 1)) ∧ (decode cX7_stepTo 138 = .ok (.iaload, 1)) ∧ (decode cX7_stepTo 139 = .ok (.imul, 1)) ∧ (decode cX7_stepTo 140 = .ok (.iload_n 3, 1)) ∧ (decode cX7_stepTo 141 = .ok (.iadd, 1)) := by decide +kernel
theorem dX7_stepTo_125 : decode cX7_stepTo 125 = .ok (.iconst 1, 1) := qd3_136.1
theorem dX7_stepTo_126 : decode cX7_stepTo 126 = .ok (.iaload, 1) := qd3_136.2.1
theorem dX7_stepTo_127 : decode cX7_stepTo 127 = .ok (.goto 12, 3) := qd3_136.2.2.1
theorem dX7_stepTo_130 : decode cX7_stepTo 130 = .ok (.aload_n 0, 1) := qd3_136.2.2.2.1
theorem dX7_stepTo_131 : decode cX7_stepTo 131 = .ok (.getfield 39, 3) := qd3_136.2.2.2.2.1
theorem dX7_stepTo_134 : decode cX7_stepTo 134 = .ok (.iload 4, 2) := qd3_136.2.2.2.2.2.1
theorem dX7_stepTo_136 : decode cX7_stepTo 136 = .ok (.aaload, 1) := qd3_136.2.2.2.2.2.2.1
theorem dX7_stepTo_137 : decode cX7_stepTo 137 = .ok (.iconst 0, 1) := qd3_136.2.2.2.2.2.2.2.1
theorem dX7_stepTo_138 : decode cX7_stepTo 138 = .ok (.iaload, 1) := qd3_136.2.2.2.2.2.2.2.2.1
theorem dX7_stepTo_139 : decode cX7_stepTo 139 = .ok (.imul, 1) := qd3_136.2.2.2.2.2.2.2.2.2.1
theorem dX7_stepTo_140 : decode cX7_stepTo 140 = .ok (.iload_n 3, 1) := qd3_136.2.2.2.2.2.2.2.2.2.2.1
theorem dX7_stepTo_141 : decode cX7_stepTo 141 = .ok (.iadd, 1) := qd3_136.2.2.2.2.2.2.2.2.2.2.2
theorem qd3_137 : (decode cX7_stepTo 142 = .ok (.istore 5, 2)) ∧ (decode cX7_stepTo 144 = .ok (.aload_n 0, 1)) ∧ (decode cX7_stepTo 145 = .ok (.getfield 64, 3)) ∧ (decode cX7_stepTo 148 = .ok (.iload 5, 2)) ∧ (decode cX7_stepTo 150 = .ok (.iaload, 1)) ∧ (decode cX7_stepTo 151 = .ok (.aload_n 0, 1)) ∧ (decode cX7_stepTo 152 = .ok (.getfield 39, 3)) ∧ (decode cX7_stepTo 155 = .ok (.iload 4, 2)) ∧ (decode cX7_stepTo 157 = .ok (.aaload, 1)) ∧ (decode cX7_stepTo 158 = .ok (.iconst 3, 1)) ∧ (decode cX7_stepTo 159 = .ok (.iaload, 1)) ∧ (decode cX7_stepTo 160 = .ok (.aload_n 0, 1)) := by decide +kernel
theorem dX7_stepTo_142 : decode cX7_stepTo 142 = .ok (.istore 5, 2) := qd3_137.1
theorem dX7_stepTo_144 : decode cX7_stepTo 144 = .ok (.aload_n 0, 1) := qd3_137.2.1
theorem dX7_stepTo_145 : decode cX7_stepTo 145 = .ok (.getfield 64, 3) := qd3_137.2.2.1
theorem dX7_stepTo_148 : decode cX7_stepTo 148 = .ok (.iload 5, 2) := qd3_137.2.2.2.1
theorem dX7_stepTo_150 : decode cX7_stepTo 150 = .ok (.iaload, 1) := qd3_137.2.2.2.2.1
theorem dX7_stepTo_151 : decode cX7_stepTo 151 = .ok (.aload_n 0, 1) := qd3_137.2.2.2.2.2.1
theorem dX7_stepTo_152 : decode cX7_stepTo 152 = .ok (.getfield 39, 3) := qd3_137.2.2.2.2.2.2.1
theorem dX7_stepTo_155 : decode cX7_stepTo 155 = .ok (.iload 4, 2) := qd3_137.2.2.2.2.2.2.2.1
theorem dX7_stepTo_157 : decode cX7_stepTo 157 = .ok (.aaload, 1) := qd3_137.2.2.2.2.2.2.2.2.1
theorem dX7_stepTo_158 : decode cX7_stepTo 158 = .ok (.iconst 3, 1) := qd3_137.2.2.2.2.2.2.2.2.2.1
theorem dX7_stepTo_159 : decode cX7_stepTo 159 = .ok (.iaload, 1) := qd3_137.2.2.2.2.2.2.2.2.2.2.1
theorem dX7_stepTo_160 : decode cX7_stepTo 160 = .ok (.aload_n 0, 1) := qd3_137.2.2.2.2.2.2.2.2.2.2.2
theorem qd3_138 : (decode cX7_stepTo 161 = .ok (.getfield 45, 3)) ∧ (decode cX7_stepTo 164 = .ok (.iload_n 3, 1)) ∧ (decode cX7_stepTo 165 = .ok (.iaload, 1)) ∧ (decode cX7_stepTo 166 = .ok (.imul, 1)) ∧ (decode cX7_stepTo 167 = .ok (.iadd, 1)) ∧ (decode cX7_stepTo 168 = .ok (.aload_n 0, 1)) ∧ (decode cX7_stepTo 169 = .ok (.getfield 64, 3)) ∧ (decode cX7_stepTo 172 = .ok (.iload_n 1, 1)) ∧ (decode cX7_stepTo 173 = .ok (.iaload, 1)) ∧ (decode cX7_stepTo 174 = .ok (.if_icmp .ne 8, 3)) ∧ (decode cX7_stepTo 177 = .ok (.iload 5, 2)) ∧ (decode cX7_stepTo 179 = .ok (.goto 4, 3)) := by decide +kernel
theorem dX7_stepTo_161 : decode cX7_stepTo 161 = .ok (.getfield 45, 3) := qd3_138.1
theorem dX7_stepTo_164 : decode cX7_stepTo 164 = .ok (.iload_n 3, 1) := qd3_138.2.1
theorem dX7_stepTo_165 : decode cX7_stepTo 165 = .ok (.iaload, 1) := qd3_138.2.2.1
theorem dX7_stepTo_166 : decode cX7_stepTo 166 = .ok (.imul, 1) := qd3_138.2.2.2.1
theorem dX7_stepTo_167 : decode cX7_stepTo 167 = .ok (.iadd, 1) := qd3_138.2.2.2.2.1
theorem dX7_stepTo_168 : decode cX7_stepTo 168 = .ok (.aload_n 0, 1) := qd3_138.2.2.2.2.2.1
theorem dX7_stepTo_169 : decode cX7_stepTo 169 = .ok (.getfield 64, 3) := qd3_138.2.2.2.2.2.2.1
theorem dX7_stepTo_172 : decode cX7_stepTo 172 = .ok (.iload_n 1, 1) := qd3_138.2.2.2.2.2.2.2.1
theorem dX7_stepTo_173 : decode cX7_stepTo 173 = .ok (.iaload, 1) := qd3_138.2.2.2.2.2.2.2.2.1
theorem dX7_stepTo_174 : decode cX7_stepTo 174 = .ok (.if_icmp .ne 8, 3) := qd3_138.2.2.2.2.2.2.2.2.2.1
theorem dX7_stepTo_177 : decode cX7_stepTo 177 = .ok (.iload 5, 2) := qd3_138.2.2.2.2.2.2.2.2.2.2.1
theorem dX7_stepTo_179 : decode cX7_stepTo 179 = .ok (.goto 4, 3) := qd3_138.2.2.2.2.2.2.2.2.2.2.2
theorem qd3_139 : (decode cX7_stepTo 182 = .ok (.iconst (-1), 1)) ∧ (decode cX7_stepTo 183 = .ok (.ireturn, 1)) := by decide +kernel
theorem dX7_stepTo_182 : decode cX7_stepTo 182 = .ok (.iconst (-1), 1) := qd3_139.1
theorem dX7_stepTo_183 : decode cX7_stepTo 183 = .ok (.ireturn, 1) := qd3_139.2
theorem qd3_140 : (decode cX7_canEnd 0 = .ok (.aload_n 0, 1)) ∧ (decode cX7_canEnd 1 = .ok (.getfield 257, 3)) ∧ (decode cX7_canEnd 4 = .ok (.iload_n 1, 1)) ∧ (decode cX7_canEnd 5 = .ok (.lshr, 1)) ∧ (decode cX7_canEnd 6 = .ok (.lconst 1, 1)) ∧ (decode cX7_canEnd 7 = .ok (.land, 1)) ∧ (decode cX7_canEnd 8 = .ok (.lconst 0, 1)) ∧ (decode cX7_canEnd 9 = .ok (.lcmp, 1)) ∧ (decode cX7_canEnd 10 = .ok (.ifCond .eq 5, 3)) ∧ (decode cX7_canEnd 13 = .ok (.iconst 0, 1)) ∧ (decode cX7_canEnd 14 = .ok (.ireturn, 1)) ∧ (decode cX7_canEnd 15 = .ok (.aload_n 0, 1)) := by decide +kernel
theorem dX7_canEnd_0 : decode cX7_canEnd 0 = .ok (.aload_n 0, 1) := qd3_140.1
theorem dX7_canEnd_1 : decode cX7_canEnd 1 = .ok (.getfield 257, 3) := qd3_140.2.1
theorem dX7_canEnd_4 : decode cX7_canEnd 4 = .ok (.iload_n 1, 1) := qd3_140.2.2.1
theorem dX7_canEnd_5 : decode cX7_canEnd 5 = .ok (.lshr, 1) := qd3_140.2.2.2.1
theorem dX7_canEnd_6 : decode cX7_canEnd 6 = .ok (.lconst 1, 1) := qd3_140.2.2.2.2.1
theorem dX7_canEnd_7 : decode cX7_canEnd 7 = .ok (.land, 1) := qd3_140.2.2.2.2.2.1
theorem dX7_canEnd_8 : decode cX7_canEnd 8 = .ok (.lconst 0, 1) := qd3_140.2.2.2.2.2.2.1
theorem dX7_canEnd_9 : decode cX7_canEnd 9 = .ok (.lcmp, 1) := qd3_140.2.2.2.2.2.2.2.1
theorem dX7_canEnd_10 : decode cX7_canEnd 10 = .ok (.ifCond .eq 5, 3) := qd3_140.2.2.2.2.2.2.2.2.1
theorem dX7_canEnd_13 : decode cX7_canEnd 13 = .ok (.iconst 0, 1) := qd3_140.2.2.2.2.2.2.2.2.2.1
theorem dX7_canEnd_14 : decode cX7_canEnd 14 = .ok (.ireturn, 1) := qd3_140.2.2.2.2.2.2.2.2.2.2.1
theorem dX7_canEnd_15 : decode cX7_canEnd 15 = .ok (.aload_n 0, 1) := qd3_140.2.2.2.2.2.2.2.2.2.2.2
theorem qd3_141 : (decode cX7_canEnd 16 = .ok (.getfield 257, 3)) ∧ (decode cX7_canEnd 19 = .ok (.lconst 1, 1)) ∧ (decode cX7_canEnd 20 = .ok (.iload_n 1, 1)) ∧ (decode cX7_canEnd 21 = .ok (.lshl, 1)) ∧ (decode cX7_canEnd 22 = .ok (.lor, 1)) ∧ (decode cX7_canEnd 23 = .ok (.lstore_n 3, 1)) ∧ (decode cX7_canEnd 24 = .ok (.iconst 1, 1)) ∧ (decode cX7_canEnd 25 = .ok (.istore 5, 2)) ∧ (decode cX7_canEnd 27 = .ok (.aload_n 0, 1)) ∧ (decode cX7_canEnd 28 = .ok (.getfield 70, 3)) ∧ (decode cX7_canEnd 31 = .ok (.iconst 0, 1)) ∧ (decode cX7_canEnd 32 = .ok (.iload_n 1, 1)) := by decide +kernel
theorem dX7_canEnd_16 : decode cX7_canEnd 16 = .ok (.getfield 257, 3) := qd3_141.1
theorem dX7_canEnd_19 : decode cX7_canEnd 19 = .ok (.lconst 1, 1) := qd3_141.2.1
theorem dX7_canEnd_20 : decode cX7_canEnd 20 = .ok (.iload_n 1, 1) := qd3_141.2.2.1
theorem dX7_canEnd_21 : decode cX7_canEnd 21 = .ok (.lshl, 1) := qd3_141.2.2.2.1
theorem dX7_canEnd_22 : decode cX7_canEnd 22 = .ok (.lor, 1) := qd3_141.2.2.2.2.1
theorem dX7_canEnd_23 : decode cX7_canEnd 23 = .ok (.lstore_n 3, 1) := qd3_141.2.2.2.2.2.1
theorem dX7_canEnd_24 : decode cX7_canEnd 24 = .ok (.iconst 1, 1) := qd3_141.2.2.2.2.2.2.1
theorem dX7_canEnd_25 : decode cX7_canEnd 25 = .ok (.istore 5, 2) := qd3_141.2.2.2.2.2.2.2.1
theorem dX7_canEnd_27 : decode cX7_canEnd 27 = .ok (.aload_n 0, 1) := qd3_141.2.2.2.2.2.2.2.2.1
theorem dX7_canEnd_28 : decode cX7_canEnd 28 = .ok (.getfield 70, 3) := qd3_141.2.2.2.2.2.2.2.2.2.1
theorem dX7_canEnd_31 : decode cX7_canEnd 31 = .ok (.iconst 0, 1) := qd3_141.2.2.2.2.2.2.2.2.2.2.1
theorem dX7_canEnd_32 : decode cX7_canEnd 32 = .ok (.iload_n 1, 1) := qd3_141.2.2.2.2.2.2.2.2.2.2.2
theorem qd3_142 : (decode cX7_canEnd 33 = .ok (.iastore, 1)) ∧ (decode cX7_canEnd 34 = .ok (.iconst 0, 1)) ∧ (decode cX7_canEnd 35 = .ok (.istore 6, 2)) ∧ (decode cX7_canEnd 37 = .ok (.iload 6, 2)) ∧ (decode cX7_canEnd 39 = .ok (.iload 5, 2)) ∧ (decode cX7_canEnd 41 = .ok (.if_icmp .ge 95, 3)) ∧ (decode cX7_canEnd 44 = .ok (.aload_n 0, 1)) ∧ (decode cX7_canEnd 45 = .ok (.getfield 70, 3)) ∧ (decode cX7_canEnd 48 = .ok (.iload 6, 2)) ∧ (decode cX7_canEnd 50 = .ok (.iaload, 1)) ∧ (decode cX7_canEnd 51 = .ok (.iconst 3, 1)) ∧ (decode cX7_canEnd 52 = .ok (.idiv, 1)) := by decide +kernel
theorem dX7_canEnd_33 : decode cX7_canEnd 33 = .ok (.iastore, 1) := qd3_142.1
theorem dX7_canEnd_34 : decode cX7_canEnd 34 = .ok (.iconst 0, 1) := qd3_142.2.1
theorem dX7_canEnd_35 : decode cX7_canEnd 35 = .ok (.istore 6, 2) := qd3_142.2.2.1
theorem dX7_canEnd_37 : decode cX7_canEnd 37 = .ok (.iload 6, 2) := qd3_142.2.2.2.1
theorem dX7_canEnd_39 : decode cX7_canEnd 39 = .ok (.iload 5, 2) := qd3_142.2.2.2.2.1
theorem dX7_canEnd_41 : decode cX7_canEnd 41 = .ok (.if_icmp .ge 95, 3) := qd3_142.2.2.2.2.2.1
theorem dX7_canEnd_44 : decode cX7_canEnd 44 = .ok (.aload_n 0, 1) := qd3_142.2.2.2.2.2.2.1
theorem dX7_canEnd_45 : decode cX7_canEnd 45 = .ok (.getfield 70, 3) := qd3_142.2.2.2.2.2.2.2.1
theorem dX7_canEnd_48 : decode cX7_canEnd 48 = .ok (.iload 6, 2) := qd3_142.2.2.2.2.2.2.2.2.1
theorem dX7_canEnd_50 : decode cX7_canEnd 50 = .ok (.iaload, 1) := qd3_142.2.2.2.2.2.2.2.2.2.1
theorem dX7_canEnd_51 : decode cX7_canEnd 51 = .ok (.iconst 3, 1) := qd3_142.2.2.2.2.2.2.2.2.2.2.1
theorem dX7_canEnd_52 : decode cX7_canEnd 52 = .ok (.idiv, 1) := qd3_142.2.2.2.2.2.2.2.2.2.2.2
theorem qd3_143 : (decode cX7_canEnd 53 = .ok (.iload_n 2, 1)) ∧ (decode cX7_canEnd 54 = .ok (.if_icmp .ne 5, 3)) ∧ (decode cX7_canEnd 57 = .ok (.iconst 1, 1)) ∧ (decode cX7_canEnd 58 = .ok (.ireturn, 1)) ∧ (decode cX7_canEnd 59 = .ok (.iconst 0, 1)) ∧ (decode cX7_canEnd 60 = .ok (.istore 7, 2)) ∧ (decode cX7_canEnd 62 = .ok (.iload 7, 2)) ∧ (decode cX7_canEnd 64 = .ok (.iconst 3, 1)) ∧ (decode cX7_canEnd 65 = .ok (.aload_n 0, 1)) ∧ (decode cX7_canEnd 66 = .ok (.getfield 82, 3)) ∧ (decode cX7_canEnd 69 = .ok (.iadd, 1)) ∧ (decode cX7_canEnd 70 = .ok (.if_icmp .ge 60, 3)) := by decide +kernel
theorem dX7_canEnd_53 : decode cX7_canEnd 53 = .ok (.iload_n 2, 1) := qd3_143.1
theorem dX7_canEnd_54 : decode cX7_canEnd 54 = .ok (.if_icmp .ne 5, 3) := qd3_143.2.1
theorem dX7_canEnd_57 : decode cX7_canEnd 57 = .ok (.iconst 1, 1) := qd3_143.2.2.1
theorem dX7_canEnd_58 : decode cX7_canEnd 58 = .ok (.ireturn, 1) := qd3_143.2.2.2.1
theorem dX7_canEnd_59 : decode cX7_canEnd 59 = .ok (.iconst 0, 1) := qd3_143.2.2.2.2.1
theorem dX7_canEnd_60 : decode cX7_canEnd 60 = .ok (.istore 7, 2) := qd3_143.2.2.2.2.2.1
theorem dX7_canEnd_62 : decode cX7_canEnd 62 = .ok (.iload 7, 2) := qd3_143.2.2.2.2.2.2.1
theorem dX7_canEnd_64 : decode cX7_canEnd 64 = .ok (.iconst 3, 1) := qd3_143.2.2.2.2.2.2.2.1
theorem dX7_canEnd_65 : decode cX7_canEnd 65 = .ok (.aload_n 0, 1) := qd3_143.2.2.2.2.2.2.2.2.1
theorem dX7_canEnd_66 : decode cX7_canEnd 66 = .ok (.getfield 82, 3) := qd3_143.2.2.2.2.2.2.2.2.2.1
theorem dX7_canEnd_69 : decode cX7_canEnd 69 = .ok (.iadd, 1) := qd3_143.2.2.2.2.2.2.2.2.2.2.1
theorem dX7_canEnd_70 : decode cX7_canEnd 70 = .ok (.if_icmp .ge 60, 3) := qd3_143.2.2.2.2.2.2.2.2.2.2.2
theorem qd3_144 : (decode cX7_canEnd 73 = .ok (.aload_n 0, 1)) ∧ (decode cX7_canEnd 74 = .ok (.aload_n 0, 1)) ∧ (decode cX7_canEnd 75 = .ok (.getfield 70, 3)) ∧ (decode cX7_canEnd 78 = .ok (.iload 6, 2)) ∧ (decode cX7_canEnd 80 = .ok (.iaload, 1)) ∧ (decode cX7_canEnd 81 = .ok (.iload 7, 2)) ∧ (decode cX7_canEnd 83 = .ok (.invokevirtual 260, 3)) ∧ (decode cX7_canEnd 86 = .ok (.istore 8, 2)) ∧ (decode cX7_canEnd 88 = .ok (.iload 8, 2)) ∧ (decode cX7_canEnd 90 = .ok (.iconst (-1), 1)) ∧ (decode cX7_canEnd 91 = .ok (.if_icmp .eq 33, 3)) ∧ (decode cX7_canEnd 94 = .ok (.lload_n 3, 1)) := by decide +kernel
theorem dX7_canEnd_73 : decode cX7_canEnd 73 = .ok (.aload_n 0, 1) := qd3_144.1
theorem dX7_canEnd_74 : decode cX7_canEnd 74 = .ok (.aload_n 0, 1) := qd3_144.2.1
theorem dX7_canEnd_75 : decode cX7_canEnd 75 = .ok (.getfield 70, 3) := qd3_144.2.2.1
theorem dX7_canEnd_78 : decode cX7_canEnd 78 = .ok (.iload 6, 2) := qd3_144.2.2.2.1
theorem dX7_canEnd_80 : decode cX7_canEnd 80 = .ok (.iaload, 1) := qd3_144.2.2.2.2.1
theorem dX7_canEnd_81 : decode cX7_canEnd 81 = .ok (.iload 7, 2) := qd3_144.2.2.2.2.2.1
theorem dX7_canEnd_83 : decode cX7_canEnd 83 = .ok (.invokevirtual 260, 3) := qd3_144.2.2.2.2.2.2.1
theorem dX7_canEnd_86 : decode cX7_canEnd 86 = .ok (.istore 8, 2) := qd3_144.2.2.2.2.2.2.2.1
theorem dX7_canEnd_88 : decode cX7_canEnd 88 = .ok (.iload 8, 2) := qd3_144.2.2.2.2.2.2.2.2.1
theorem dX7_canEnd_90 : decode cX7_canEnd 90 = .ok (.iconst (-1), 1) := qd3_144.2.2.2.2.2.2.2.2.2.1
theorem dX7_canEnd_91 : decode cX7_canEnd 91 = .ok (.if_icmp .eq 33, 3) := qd3_144.2.2.2.2.2.2.2.2.2.2.1
theorem dX7_canEnd_94 : decode cX7_canEnd 94 = .ok (.lload_n 3, 1) := qd3_144.2.2.2.2.2.2.2.2.2.2.2
theorem qd3_145 : (decode cX7_canEnd 95 = .ok (.iload 8, 2)) ∧ (decode cX7_canEnd 97 = .ok (.lshr, 1)) ∧ (decode cX7_canEnd 98 = .ok (.lconst 1, 1)) ∧ (decode cX7_canEnd 99 = .ok (.land, 1)) ∧ (decode cX7_canEnd 100 = .ok (.lconst 0, 1)) ∧ (decode cX7_canEnd 101 = .ok (.lcmp, 1)) ∧ (decode cX7_canEnd 102 = .ok (.ifCond .ne 22, 3)) ∧ (decode cX7_canEnd 105 = .ok (.lload_n 3, 1)) ∧ (decode cX7_canEnd 106 = .ok (.lconst 1, 1)) ∧ (decode cX7_canEnd 107 = .ok (.iload 8, 2)) ∧ (decode cX7_canEnd 109 = .ok (.lshl, 1)) ∧ (decode cX7_canEnd 110 = .ok (.lor, 1)) := by decide +kernel
theorem dX7_canEnd_95 : decode cX7_canEnd 95 = .ok (.iload 8, 2) := qd3_145.1
theorem dX7_canEnd_97 : decode cX7_canEnd 97 = .ok (.lshr, 1) := qd3_145.2.1
theorem dX7_canEnd_98 : decode cX7_canEnd 98 = .ok (.lconst 1, 1) := qd3_145.2.2.1
theorem dX7_canEnd_99 : decode cX7_canEnd 99 = .ok (.land, 1) := qd3_145.2.2.2.1
theorem dX7_canEnd_100 : decode cX7_canEnd 100 = .ok (.lconst 0, 1) := qd3_145.2.2.2.2.1
theorem dX7_canEnd_101 : decode cX7_canEnd 101 = .ok (.lcmp, 1) := qd3_145.2.2.2.2.2.1
theorem dX7_canEnd_102 : decode cX7_canEnd 102 = .ok (.ifCond .ne 22, 3) := qd3_145.2.2.2.2.2.2.1
theorem dX7_canEnd_105 : decode cX7_canEnd 105 = .ok (.lload_n 3, 1) := qd3_145.2.2.2.2.2.2.2.1
theorem dX7_canEnd_106 : decode cX7_canEnd 106 = .ok (.lconst 1, 1) := qd3_145.2.2.2.2.2.2.2.2.1
theorem dX7_canEnd_107 : decode cX7_canEnd 107 = .ok (.iload 8, 2) := qd3_145.2.2.2.2.2.2.2.2.2.1
theorem dX7_canEnd_109 : decode cX7_canEnd 109 = .ok (.lshl, 1) := qd3_145.2.2.2.2.2.2.2.2.2.2.1
theorem dX7_canEnd_110 : decode cX7_canEnd 110 = .ok (.lor, 1) := qd3_145.2.2.2.2.2.2.2.2.2.2.2
theorem qd3_146 : (decode cX7_canEnd 111 = .ok (.lstore_n 3, 1)) ∧ (decode cX7_canEnd 112 = .ok (.aload_n 0, 1)) ∧ (decode cX7_canEnd 113 = .ok (.getfield 70, 3)) ∧ (decode cX7_canEnd 116 = .ok (.iload 5, 2)) ∧ (decode cX7_canEnd 118 = .ok (.iinc 5 1, 3)) ∧ (decode cX7_canEnd 121 = .ok (.iload 8, 2)) ∧ (decode cX7_canEnd 123 = .ok (.iastore, 1)) ∧ (decode cX7_canEnd 124 = .ok (.iinc 7 1, 3)) ∧ (decode cX7_canEnd 127 = .ok (.goto (-65), 3)) ∧ (decode cX7_canEnd 130 = .ok (.iinc 6 1, 3)) ∧ (decode cX7_canEnd 133 = .ok (.goto (-96), 3)) ∧ (decode cX7_canEnd 136 = .ok (.iconst 0, 1)) := by decide +kernel
theorem dX7_canEnd_111 : decode cX7_canEnd 111 = .ok (.lstore_n 3, 1) := qd3_146.1
theorem dX7_canEnd_112 : decode cX7_canEnd 112 = .ok (.aload_n 0, 1) := qd3_146.2.1
theorem dX7_canEnd_113 : decode cX7_canEnd 113 = .ok (.getfield 70, 3) := qd3_146.2.2.1
theorem dX7_canEnd_116 : decode cX7_canEnd 116 = .ok (.iload 5, 2) := qd3_146.2.2.2.1
theorem dX7_canEnd_118 : decode cX7_canEnd 118 = .ok (.iinc 5 1, 3) := qd3_146.2.2.2.2.1
theorem dX7_canEnd_121 : decode cX7_canEnd 121 = .ok (.iload 8, 2) := qd3_146.2.2.2.2.2.1
theorem dX7_canEnd_123 : decode cX7_canEnd 123 = .ok (.iastore, 1) := qd3_146.2.2.2.2.2.2.1
theorem dX7_canEnd_124 : decode cX7_canEnd 124 = .ok (.iinc 7 1, 3) := qd3_146.2.2.2.2.2.2.2.1
theorem dX7_canEnd_127 : decode cX7_canEnd 127 = .ok (.goto (-65), 3) := qd3_146.2.2.2.2.2.2.2.2.1
theorem dX7_canEnd_130 : decode cX7_canEnd 130 = .ok (.iinc 6 1, 3) := qd3_146.2.2.2.2.2.2.2.2.2.1
theorem dX7_canEnd_133 : decode cX7_canEnd 133 = .ok (.goto (-96), 3) := qd3_146.2.2.2.2.2.2.2.2.2.2.1
theorem dX7_canEnd_136 : decode cX7_canEnd 136 = .ok (.iconst 0, 1) := qd3_146.2.2.2.2.2.2.2.2.2.2.2
theorem dX7_canEnd_137 : decode cX7_canEnd 137 = .ok (.ireturn, 1) := by decide +kernel
theorem qd3_147 : (decode cX7_findWay 0 = .ok (.aload_n 0, 1)) ∧ (decode cX7_findWay 1 = .ok (.iload_n 2, 1)) ∧ (decode cX7_findWay 2 = .ok (.iload_n 3, 1)) ∧ (decode cX7_findWay 3 = .ok (.invokevirtual 264, 3)) ∧ (decode cX7_findWay 6 = .ok (.aload_n 0, 1)) ∧ (decode cX7_findWay 7 = .ok (.iconst 0, 1)) ∧ (decode cX7_findWay 8 = .ok (.putfield 267, 3)) ∧ (decode cX7_findWay 11 = .ok (.aload_n 0, 1)) ∧ (decode cX7_findWay 12 = .ok (.lconst 0, 1)) ∧ (decode cX7_findWay 13 = .ok (.putfield 257, 3)) ∧ (decode cX7_findWay 16 = .ok (.aload_n 0, 1)) ∧ (decode cX7_findWay 17 = .ok (.iload_n 1, 1)) := by decide +kernel
theorem dX7_findWay_0 : decode cX7_findWay 0 = .ok (.aload_n 0, 1) := qd3_147.1
theorem dX7_findWay_1 : decode cX7_findWay 1 = .ok (.iload_n 2, 1) := qd3_147.2.1
theorem dX7_findWay_2 : decode cX7_findWay 2 = .ok (.iload_n 3, 1) := qd3_147.2.2.1
theorem dX7_findWay_3 : decode cX7_findWay 3 = .ok (.invokevirtual 264, 3) := qd3_147.2.2.2.1
theorem dX7_findWay_6 : decode cX7_findWay 6 = .ok (.aload_n 0, 1) := qd3_147.2.2.2.2.1
theorem dX7_findWay_7 : decode cX7_findWay 7 = .ok (.iconst 0, 1) := qd3_147.2.2.2.2.2.1
theorem dX7_findWay_8 : decode cX7_findWay 8 = .ok (.putfield 267, 3) := qd3_147.2.2.2.2.2.2.1
theorem dX7_findWay_11 : decode cX7_findWay 11 = .ok (.aload_n 0, 1) := qd3_147.2.2.2.2.2.2.2.1
theorem dX7_findWay_12 : decode cX7_findWay 12 = .ok (.lconst 0, 1) := qd3_147.2.2.2.2.2.2.2.2.1
theorem dX7_findWay_13 : decode cX7_findWay 13 = .ok (.putfield 257, 3) := qd3_147.2.2.2.2.2.2.2.2.2.1
theorem dX7_findWay_16 : decode cX7_findWay 16 = .ok (.aload_n 0, 1) := qd3_147.2.2.2.2.2.2.2.2.2.2.1
theorem dX7_findWay_17 : decode cX7_findWay 17 = .ok (.iload_n 1, 1) := qd3_147.2.2.2.2.2.2.2.2.2.2.2
theorem qd3_148 : (decode cX7_findWay 18 = .ok (.invokevirtual 270, 3)) ∧ (decode cX7_findWay 21 = .ok (.istore 4, 2)) ∧ (decode cX7_findWay 23 = .ok (.iload 4, 2)) ∧ (decode cX7_findWay 25 = .ok (.ldc 254, 2)) ∧ (decode cX7_findWay 27 = .ok (.if_icmp .lt 5, 3)) ∧ (decode cX7_findWay 30 = .ok (.iconst 0, 1)) ∧ (decode cX7_findWay 31 = .ok (.ireturn, 1)) ∧ (decode cX7_findWay 32 = .ok (.iconst (-1), 1)) ∧ (decode cX7_findWay 33 = .ok (.istore 5, 2)) ∧ (decode cX7_findWay 35 = .ok (.iconst 2, 1)) ∧ (decode cX7_findWay 36 = .ok (.istore 6, 2)) ∧ (decode cX7_findWay 38 = .ok (.iload 6, 2)) := by decide +kernel
theorem dX7_findWay_18 : decode cX7_findWay 18 = .ok (.invokevirtual 270, 3) := qd3_148.1
theorem dX7_findWay_21 : decode cX7_findWay 21 = .ok (.istore 4, 2) := qd3_148.2.1
theorem dX7_findWay_23 : decode cX7_findWay 23 = .ok (.iload 4, 2) := qd3_148.2.2.1
theorem dX7_findWay_25 : decode cX7_findWay 25 = .ok (.ldc 254, 2) := qd3_148.2.2.2.1
theorem dX7_findWay_27 : decode cX7_findWay 27 = .ok (.if_icmp .lt 5, 3) := qd3_148.2.2.2.2.1
theorem dX7_findWay_30 : decode cX7_findWay 30 = .ok (.iconst 0, 1) := qd3_148.2.2.2.2.2.1
theorem dX7_findWay_31 : decode cX7_findWay 31 = .ok (.ireturn, 1) := qd3_148.2.2.2.2.2.2.1
theorem dX7_findWay_32 : decode cX7_findWay 32 = .ok (.iconst (-1), 1) := qd3_148.2.2.2.2.2.2.2.1
theorem dX7_findWay_33 : decode cX7_findWay 33 = .ok (.istore 5, 2) := qd3_148.2.2.2.2.2.2.2.2.1
theorem dX7_findWay_35 : decode cX7_findWay 35 = .ok (.iconst 2, 1) := qd3_148.2.2.2.2.2.2.2.2.2.1
theorem dX7_findWay_36 : decode cX7_findWay 36 = .ok (.istore 6, 2) := qd3_148.2.2.2.2.2.2.2.2.2.2.1
theorem dX7_findWay_38 : decode cX7_findWay 38 = .ok (.iload 6, 2) := qd3_148.2.2.2.2.2.2.2.2.2.2.2
theorem qd3_149 : (decode cX7_findWay 40 = .ok (.ifCond .lt 52, 3)) ∧ (decode cX7_findWay 43 = .ok (.aload_n 0, 1)) ∧ (decode cX7_findWay 44 = .ok (.getfield 64, 3)) ∧ (decode cX7_findWay 47 = .ok (.iconst 3, 1)) ∧ (decode cX7_findWay 48 = .ok (.iload_n 1, 1)) ∧ (decode cX7_findWay 49 = .ok (.imul, 1)) ∧ (decode cX7_findWay 50 = .ok (.iload 6, 2)) ∧ (decode cX7_findWay 52 = .ok (.iadd, 1)) ∧ (decode cX7_findWay 53 = .ok (.iaload, 1)) ∧ (decode cX7_findWay 54 = .ok (.iload 4, 2)) ∧ (decode cX7_findWay 56 = .ok (.if_icmp .ne 26, 3)) ∧ (decode cX7_findWay 59 = .ok (.aload_n 0, 1)) := by decide +kernel
theorem dX7_findWay_40 : decode cX7_findWay 40 = .ok (.ifCond .lt 52, 3) := qd3_149.1
theorem dX7_findWay_43 : decode cX7_findWay 43 = .ok (.aload_n 0, 1) := qd3_149.2.1
theorem dX7_findWay_44 : decode cX7_findWay 44 = .ok (.getfield 64, 3) := qd3_149.2.2.1
theorem dX7_findWay_47 : decode cX7_findWay 47 = .ok (.iconst 3, 1) := qd3_149.2.2.2.1
theorem dX7_findWay_48 : decode cX7_findWay 48 = .ok (.iload_n 1, 1) := qd3_149.2.2.2.2.1
theorem dX7_findWay_49 : decode cX7_findWay 49 = .ok (.imul, 1) := qd3_149.2.2.2.2.2.1
theorem dX7_findWay_50 : decode cX7_findWay 50 = .ok (.iload 6, 2) := qd3_149.2.2.2.2.2.2.1
theorem dX7_findWay_52 : decode cX7_findWay 52 = .ok (.iadd, 1) := qd3_149.2.2.2.2.2.2.2.1
theorem dX7_findWay_53 : decode cX7_findWay 53 = .ok (.iaload, 1) := qd3_149.2.2.2.2.2.2.2.2.1
theorem dX7_findWay_54 : decode cX7_findWay 54 = .ok (.iload 4, 2) := qd3_149.2.2.2.2.2.2.2.2.2.1
theorem dX7_findWay_56 : decode cX7_findWay 56 = .ok (.if_icmp .ne 26, 3) := qd3_149.2.2.2.2.2.2.2.2.2.2.1
theorem dX7_findWay_59 : decode cX7_findWay 59 = .ok (.aload_n 0, 1) := qd3_149.2.2.2.2.2.2.2.2.2.2.2
theorem qd3_150 : (decode cX7_findWay 60 = .ok (.iconst 3, 1)) ∧ (decode cX7_findWay 61 = .ok (.iload_n 1, 1)) ∧ (decode cX7_findWay 62 = .ok (.imul, 1)) ∧ (decode cX7_findWay 63 = .ok (.iload 6, 2)) ∧ (decode cX7_findWay 65 = .ok (.iadd, 1)) ∧ (decode cX7_findWay 66 = .ok (.iload_n 2, 1)) ∧ (decode cX7_findWay 67 = .ok (.invokevirtual 273, 3)) ∧ (decode cX7_findWay 70 = .ok (.ifCond .eq 12, 3)) ∧ (decode cX7_findWay 73 = .ok (.iconst 3, 1)) ∧ (decode cX7_findWay 74 = .ok (.iload_n 1, 1)) ∧ (decode cX7_findWay 75 = .ok (.imul, 1)) ∧ (decode cX7_findWay 76 = .ok (.iload 6, 2)) := by decide +kernel
theorem dX7_findWay_60 : decode cX7_findWay 60 = .ok (.iconst 3, 1) := qd3_150.1
theorem dX7_findWay_61 : decode cX7_findWay 61 = .ok (.iload_n 1, 1) := qd3_150.2.1
theorem dX7_findWay_62 : decode cX7_findWay 62 = .ok (.imul, 1) := qd3_150.2.2.1
theorem dX7_findWay_63 : decode cX7_findWay 63 = .ok (.iload 6, 2) := qd3_150.2.2.2.1
theorem dX7_findWay_65 : decode cX7_findWay 65 = .ok (.iadd, 1) := qd3_150.2.2.2.2.1
theorem dX7_findWay_66 : decode cX7_findWay 66 = .ok (.iload_n 2, 1) := qd3_150.2.2.2.2.2.1
theorem dX7_findWay_67 : decode cX7_findWay 67 = .ok (.invokevirtual 273, 3) := qd3_150.2.2.2.2.2.2.1
theorem dX7_findWay_70 : decode cX7_findWay 70 = .ok (.ifCond .eq 12, 3) := qd3_150.2.2.2.2.2.2.2.1
theorem dX7_findWay_73 : decode cX7_findWay 73 = .ok (.iconst 3, 1) := qd3_150.2.2.2.2.2.2.2.2.1
theorem dX7_findWay_74 : decode cX7_findWay 74 = .ok (.iload_n 1, 1) := qd3_150.2.2.2.2.2.2.2.2.2.1
theorem dX7_findWay_75 : decode cX7_findWay 75 = .ok (.imul, 1) := qd3_150.2.2.2.2.2.2.2.2.2.2.1
theorem dX7_findWay_76 : decode cX7_findWay 76 = .ok (.iload 6, 2) := qd3_150.2.2.2.2.2.2.2.2.2.2.2
theorem qd3_151 : (decode cX7_findWay 78 = .ok (.iadd, 1)) ∧ (decode cX7_findWay 79 = .ok (.goto 5, 3)) ∧ (decode cX7_findWay 82 = .ok (.iload 5, 2)) ∧ (decode cX7_findWay 84 = .ok (.istore 5, 2)) ∧ (decode cX7_findWay 86 = .ok (.iinc 6 (-1), 3)) ∧ (decode cX7_findWay 89 = .ok (.goto (-51), 3)) ∧ (decode cX7_findWay 92 = .ok (.aload_n 0, 1)) ∧ (decode cX7_findWay 93 = .ok (.getfield 67, 3)) ∧ (decode cX7_findWay 96 = .ok (.aload_n 0, 1)) ∧ (decode cX7_findWay 97 = .ok (.dup, 1)) ∧ (decode cX7_findWay 98 = .ok (.getfield 267, 3)) ∧ (decode cX7_findWay 101 = .ok (.dup_x1, 1)) := by decide +kernel
theorem dX7_findWay_78 : decode cX7_findWay 78 = .ok (.iadd, 1) := qd3_151.1
theorem dX7_findWay_79 : decode cX7_findWay 79 = .ok (.goto 5, 3) := qd3_151.2.1
theorem dX7_findWay_82 : decode cX7_findWay 82 = .ok (.iload 5, 2) := qd3_151.2.2.1
theorem dX7_findWay_84 : decode cX7_findWay 84 = .ok (.istore 5, 2) := qd3_151.2.2.2.1
theorem dX7_findWay_86 : decode cX7_findWay 86 = .ok (.iinc 6 (-1), 3) := qd3_151.2.2.2.2.1
theorem dX7_findWay_89 : decode cX7_findWay 89 = .ok (.goto (-51), 3) := qd3_151.2.2.2.2.2.1
theorem dX7_findWay_92 : decode cX7_findWay 92 = .ok (.aload_n 0, 1) := qd3_151.2.2.2.2.2.2.1
theorem dX7_findWay_93 : decode cX7_findWay 93 = .ok (.getfield 67, 3) := qd3_151.2.2.2.2.2.2.2.1
theorem dX7_findWay_96 : decode cX7_findWay 96 = .ok (.aload_n 0, 1) := qd3_151.2.2.2.2.2.2.2.2.1
theorem dX7_findWay_97 : decode cX7_findWay 97 = .ok (.dup, 1) := qd3_151.2.2.2.2.2.2.2.2.2.1
theorem dX7_findWay_98 : decode cX7_findWay 98 = .ok (.getfield 267, 3) := qd3_151.2.2.2.2.2.2.2.2.2.2.1
theorem dX7_findWay_101 : decode cX7_findWay 101 = .ok (.dup_x1, 1) := qd3_151.2.2.2.2.2.2.2.2.2.2.2
theorem qd3_152 : (decode cX7_findWay 102 = .ok (.iconst 1, 1)) ∧ (decode cX7_findWay 103 = .ok (.iadd, 1)) ∧ (decode cX7_findWay 104 = .ok (.putfield 267, 3)) ∧ (decode cX7_findWay 107 = .ok (.iload 5, 2)) ∧ (decode cX7_findWay 109 = .ok (.iconst 3, 1)) ∧ (decode cX7_findWay 110 = .ok (.irem, 1)) ∧ (decode cX7_findWay 111 = .ok (.iastore, 1)) ∧ (decode cX7_findWay 112 = .ok (.aload_n 0, 1)) ∧ (decode cX7_findWay 113 = .ok (.dup, 1)) ∧ (decode cX7_findWay 114 = .ok (.getfield 257, 3)) ∧ (decode cX7_findWay 117 = .ok (.lconst 1, 1)) ∧ (decode cX7_findWay 118 = .ok (.iload 5, 2)) := by decide +kernel
theorem dX7_findWay_102 : decode cX7_findWay 102 = .ok (.iconst 1, 1) := qd3_152.1
theorem dX7_findWay_103 : decode cX7_findWay 103 = .ok (.iadd, 1) := qd3_152.2.1
theorem dX7_findWay_104 : decode cX7_findWay 104 = .ok (.putfield 267, 3) := qd3_152.2.2.1
theorem dX7_findWay_107 : decode cX7_findWay 107 = .ok (.iload 5, 2) := qd3_152.2.2.2.1
theorem dX7_findWay_109 : decode cX7_findWay 109 = .ok (.iconst 3, 1) := qd3_152.2.2.2.2.1
theorem dX7_findWay_110 : decode cX7_findWay 110 = .ok (.irem, 1) := qd3_152.2.2.2.2.2.1
theorem dX7_findWay_111 : decode cX7_findWay 111 = .ok (.iastore, 1) := qd3_152.2.2.2.2.2.2.1
theorem dX7_findWay_112 : decode cX7_findWay 112 = .ok (.aload_n 0, 1) := qd3_152.2.2.2.2.2.2.2.1
theorem dX7_findWay_113 : decode cX7_findWay 113 = .ok (.dup, 1) := qd3_152.2.2.2.2.2.2.2.2.1
theorem dX7_findWay_114 : decode cX7_findWay 114 = .ok (.getfield 257, 3) := qd3_152.2.2.2.2.2.2.2.2.2.1
theorem dX7_findWay_117 : decode cX7_findWay 117 = .ok (.lconst 1, 1) := qd3_152.2.2.2.2.2.2.2.2.2.2.1
theorem dX7_findWay_118 : decode cX7_findWay 118 = .ok (.iload 5, 2) := qd3_152.2.2.2.2.2.2.2.2.2.2.2
theorem qd3_153 : (decode cX7_findWay 120 = .ok (.lshl, 1)) ∧ (decode cX7_findWay 121 = .ok (.lor, 1)) ∧ (decode cX7_findWay 122 = .ok (.putfield 257, 3)) ∧ (decode cX7_findWay 125 = .ok (.iload 5, 2)) ∧ (decode cX7_findWay 127 = .ok (.iconst 3, 1)) ∧ (decode cX7_findWay 128 = .ok (.idiv, 1)) ∧ (decode cX7_findWay 129 = .ok (.iload_n 2, 1)) ∧ (decode cX7_findWay 130 = .ok (.if_icmp .eq 86, 3)) ∧ (decode cX7_findWay 133 = .ok (.iconst 0, 1)) ∧ (decode cX7_findWay 134 = .ok (.istore 6, 2)) ∧ (decode cX7_findWay 136 = .ok (.aload_n 0, 1)) ∧ (decode cX7_findWay 137 = .ok (.iload 5, 2)) := by decide +kernel
theorem dX7_findWay_120 : decode cX7_findWay 120 = .ok (.lshl, 1) := qd3_153.1
theorem dX7_findWay_121 : decode cX7_findWay 121 = .ok (.lor, 1) := qd3_153.2.1
theorem dX7_findWay_122 : decode cX7_findWay 122 = .ok (.putfield 257, 3) := qd3_153.2.2.1
theorem dX7_findWay_125 : decode cX7_findWay 125 = .ok (.iload 5, 2) := qd3_153.2.2.2.1
theorem dX7_findWay_127 : decode cX7_findWay 127 = .ok (.iconst 3, 1) := qd3_153.2.2.2.2.1
theorem dX7_findWay_128 : decode cX7_findWay 128 = .ok (.idiv, 1) := qd3_153.2.2.2.2.2.1
theorem dX7_findWay_129 : decode cX7_findWay 129 = .ok (.iload_n 2, 1) := qd3_153.2.2.2.2.2.2.1
theorem dX7_findWay_130 : decode cX7_findWay 130 = .ok (.if_icmp .eq 86, 3) := qd3_153.2.2.2.2.2.2.2.1
theorem dX7_findWay_133 : decode cX7_findWay 133 = .ok (.iconst 0, 1) := qd3_153.2.2.2.2.2.2.2.2.1
theorem dX7_findWay_134 : decode cX7_findWay 134 = .ok (.istore 6, 2) := qd3_153.2.2.2.2.2.2.2.2.2.1
theorem dX7_findWay_136 : decode cX7_findWay 136 = .ok (.aload_n 0, 1) := qd3_153.2.2.2.2.2.2.2.2.2.2.1
theorem dX7_findWay_137 : decode cX7_findWay 137 = .ok (.iload 5, 2) := qd3_153.2.2.2.2.2.2.2.2.2.2.2
theorem qd3_154 : (decode cX7_findWay 139 = .ok (.iload 6, 2)) ∧ (decode cX7_findWay 141 = .ok (.invokevirtual 260, 3)) ∧ (decode cX7_findWay 144 = .ok (.istore 7, 2)) ∧ (decode cX7_findWay 146 = .ok (.iload 7, 2)) ∧ (decode cX7_findWay 148 = .ok (.iconst (-1), 1)) ∧ (decode cX7_findWay 149 = .ok (.if_icmp .eq 13, 3)) ∧ (decode cX7_findWay 152 = .ok (.aload_n 0, 1)) ∧ (decode cX7_findWay 153 = .ok (.iload 7, 2)) ∧ (decode cX7_findWay 155 = .ok (.iload_n 2, 1)) ∧ (decode cX7_findWay 156 = .ok (.invokevirtual 273, 3)) ∧ (decode cX7_findWay 159 = .ok (.ifCond .ne 19, 3)) ∧ (decode cX7_findWay 162 = .ok (.iinc 6 1, 3)) := by decide +kernel
theorem dX7_findWay_139 : decode cX7_findWay 139 = .ok (.iload 6, 2) := qd3_154.1
theorem dX7_findWay_141 : decode cX7_findWay 141 = .ok (.invokevirtual 260, 3) := qd3_154.2.1
theorem dX7_findWay_144 : decode cX7_findWay 144 = .ok (.istore 7, 2) := qd3_154.2.2.1
theorem dX7_findWay_146 : decode cX7_findWay 146 = .ok (.iload 7, 2) := qd3_154.2.2.2.1
theorem dX7_findWay_148 : decode cX7_findWay 148 = .ok (.iconst (-1), 1) := qd3_154.2.2.2.2.1
theorem dX7_findWay_149 : decode cX7_findWay 149 = .ok (.if_icmp .eq 13, 3) := qd3_154.2.2.2.2.2.1
theorem dX7_findWay_152 : decode cX7_findWay 152 = .ok (.aload_n 0, 1) := qd3_154.2.2.2.2.2.2.1
theorem dX7_findWay_153 : decode cX7_findWay 153 = .ok (.iload 7, 2) := qd3_154.2.2.2.2.2.2.2.1
theorem dX7_findWay_155 : decode cX7_findWay 155 = .ok (.iload_n 2, 1) := qd3_154.2.2.2.2.2.2.2.2.1
theorem dX7_findWay_156 : decode cX7_findWay 156 = .ok (.invokevirtual 273, 3) := qd3_154.2.2.2.2.2.2.2.2.2.1
theorem dX7_findWay_159 : decode cX7_findWay 159 = .ok (.ifCond .ne 19, 3) := qd3_154.2.2.2.2.2.2.2.2.2.2.1
theorem dX7_findWay_162 : decode cX7_findWay 162 = .ok (.iinc 6 1, 3) := qd3_154.2.2.2.2.2.2.2.2.2.2.2
theorem qd3_155 : (decode cX7_findWay 165 = .ok (.aload_n 0, 1)) ∧ (decode cX7_findWay 166 = .ok (.iload 5, 2)) ∧ (decode cX7_findWay 168 = .ok (.iload 6, 2)) ∧ (decode cX7_findWay 170 = .ok (.invokevirtual 260, 3)) ∧ (decode cX7_findWay 173 = .ok (.istore 7, 2)) ∧ (decode cX7_findWay 175 = .ok (.goto (-29), 3)) ∧ (decode cX7_findWay 178 = .ok (.aload_n 0, 1)) ∧ (decode cX7_findWay 179 = .ok (.getfield 67, 3)) ∧ (decode cX7_findWay 182 = .ok (.aload_n 0, 1)) ∧ (decode cX7_findWay 183 = .ok (.dup, 1)) ∧ (decode cX7_findWay 184 = .ok (.getfield 267, 3)) ∧ (decode cX7_findWay 187 = .ok (.dup_x1, 1)) := by decide +kernel
theorem dX7_findWay_165 : decode cX7_findWay 165 = .ok (.aload_n 0, 1) := qd3_155.1
theorem dX7_findWay_166 : decode cX7_findWay 166 = .ok (.iload 5, 2) := qd3_155.2.1
theorem dX7_findWay_168 : decode cX7_findWay 168 = .ok (.iload 6, 2) := qd3_155.2.2.1
theorem dX7_findWay_170 : decode cX7_findWay 170 = .ok (.invokevirtual 260, 3) := qd3_155.2.2.2.1
theorem dX7_findWay_173 : decode cX7_findWay 173 = .ok (.istore 7, 2) := qd3_155.2.2.2.2.1
theorem dX7_findWay_175 : decode cX7_findWay 175 = .ok (.goto (-29), 3) := qd3_155.2.2.2.2.2.1
theorem dX7_findWay_178 : decode cX7_findWay 178 = .ok (.aload_n 0, 1) := qd3_155.2.2.2.2.2.2.1
theorem dX7_findWay_179 : decode cX7_findWay 179 = .ok (.getfield 67, 3) := qd3_155.2.2.2.2.2.2.2.1
theorem dX7_findWay_182 : decode cX7_findWay 182 = .ok (.aload_n 0, 1) := qd3_155.2.2.2.2.2.2.2.2.1
theorem dX7_findWay_183 : decode cX7_findWay 183 = .ok (.dup, 1) := qd3_155.2.2.2.2.2.2.2.2.2.1
theorem dX7_findWay_184 : decode cX7_findWay 184 = .ok (.getfield 267, 3) := qd3_155.2.2.2.2.2.2.2.2.2.2.1
theorem dX7_findWay_187 : decode cX7_findWay 187 = .ok (.dup_x1, 1) := qd3_155.2.2.2.2.2.2.2.2.2.2.2
theorem qd3_156 : (decode cX7_findWay 188 = .ok (.iconst 1, 1)) ∧ (decode cX7_findWay 189 = .ok (.iadd, 1)) ∧ (decode cX7_findWay 190 = .ok (.putfield 267, 3)) ∧ (decode cX7_findWay 193 = .ok (.iload 6, 2)) ∧ (decode cX7_findWay 195 = .ok (.iastore, 1)) ∧ (decode cX7_findWay 196 = .ok (.iload 7, 2)) ∧ (decode cX7_findWay 198 = .ok (.istore 5, 2)) ∧ (decode cX7_findWay 200 = .ok (.aload_n 0, 1)) ∧ (decode cX7_findWay 201 = .ok (.dup, 1)) ∧ (decode cX7_findWay 202 = .ok (.getfield 257, 3)) ∧ (decode cX7_findWay 205 = .ok (.lconst 1, 1)) ∧ (decode cX7_findWay 206 = .ok (.iload 5, 2)) := by decide +kernel
theorem dX7_findWay_188 : decode cX7_findWay 188 = .ok (.iconst 1, 1) := qd3_156.1
theorem dX7_findWay_189 : decode cX7_findWay 189 = .ok (.iadd, 1) := qd3_156.2.1
theorem dX7_findWay_190 : decode cX7_findWay 190 = .ok (.putfield 267, 3) := qd3_156.2.2.1
theorem dX7_findWay_193 : decode cX7_findWay 193 = .ok (.iload 6, 2) := qd3_156.2.2.2.1
theorem dX7_findWay_195 : decode cX7_findWay 195 = .ok (.iastore, 1) := qd3_156.2.2.2.2.1
theorem dX7_findWay_196 : decode cX7_findWay 196 = .ok (.iload 7, 2) := qd3_156.2.2.2.2.2.1
theorem dX7_findWay_198 : decode cX7_findWay 198 = .ok (.istore 5, 2) := qd3_156.2.2.2.2.2.2.1
theorem dX7_findWay_200 : decode cX7_findWay 200 = .ok (.aload_n 0, 1) := qd3_156.2.2.2.2.2.2.2.1
theorem dX7_findWay_201 : decode cX7_findWay 201 = .ok (.dup, 1) := qd3_156.2.2.2.2.2.2.2.2.1
theorem dX7_findWay_202 : decode cX7_findWay 202 = .ok (.getfield 257, 3) := qd3_156.2.2.2.2.2.2.2.2.2.1
theorem dX7_findWay_205 : decode cX7_findWay 205 = .ok (.lconst 1, 1) := qd3_156.2.2.2.2.2.2.2.2.2.2.1
theorem dX7_findWay_206 : decode cX7_findWay 206 = .ok (.iload 5, 2) := qd3_156.2.2.2.2.2.2.2.2.2.2.2
theorem qd3_157 : (decode cX7_findWay 208 = .ok (.lshl, 1)) ∧ (decode cX7_findWay 209 = .ok (.lor, 1)) ∧ (decode cX7_findWay 210 = .ok (.putfield 257, 3)) ∧ (decode cX7_findWay 213 = .ok (.goto (-88), 3)) ∧ (decode cX7_findWay 216 = .ok (.iconst 1, 1)) ∧ (decode cX7_findWay 217 = .ok (.ireturn, 1)) := by decide +kernel
theorem dX7_findWay_208 : decode cX7_findWay 208 = .ok (.lshl, 1) := qd3_157.1
theorem dX7_findWay_209 : decode cX7_findWay 209 = .ok (.lor, 1) := qd3_157.2.1
theorem dX7_findWay_210 : decode cX7_findWay 210 = .ok (.putfield 257, 3) := qd3_157.2.2.1
theorem dX7_findWay_213 : decode cX7_findWay 213 = .ok (.goto (-88), 3) := qd3_157.2.2.2.1
theorem dX7_findWay_216 : decode cX7_findWay 216 = .ok (.iconst 1, 1) := qd3_157.2.2.2.2.1
theorem dX7_findWay_217 : decode cX7_findWay 217 = .ok (.ireturn, 1) := qd3_157.2.2.2.2.2
theorem qd3_158 : (decode cX7_cheapest 0 = .ok (.iload_n 1, 1)) ∧ (decode cX7_cheapest 1 = .ok (.invokestatic 112, 3)) ∧ (decode cX7_cheapest 4 = .ok (.ifCond .eq 10, 3)) ∧ (decode cX7_cheapest 7 = .ok (.iload_n 2, 1)) ∧ (decode cX7_cheapest 8 = .ok (.invokestatic 112, 3)) ∧ (decode cX7_cheapest 11 = .ok (.ifCond .ne 10, 3)) ∧ (decode cX7_cheapest 14 = .ok (.aload_n 0, 1)) ∧ (decode cX7_cheapest 15 = .ok (.bipush (-2), 2)) ∧ (decode cX7_cheapest 17 = .ok (.invokevirtual 94, 3)) ∧ (decode cX7_cheapest 20 = .ok (.ireturn, 1)) ∧ (decode cX7_cheapest 21 = .ok (.aload_n 0, 1)) ∧ (decode cX7_cheapest 22 = .ok (.invokevirtual 276, 3)) := by decide +kernel
theorem dX7_cheapest_0 : decode cX7_cheapest 0 = .ok (.iload_n 1, 1) := qd3_158.1
theorem dX7_cheapest_1 : decode cX7_cheapest 1 = .ok (.invokestatic 112, 3) := qd3_158.2.1
theorem dX7_cheapest_4 : decode cX7_cheapest 4 = .ok (.ifCond .eq 10, 3) := qd3_158.2.2.1
theorem dX7_cheapest_7 : decode cX7_cheapest 7 = .ok (.iload_n 2, 1) := qd3_158.2.2.2.1
theorem dX7_cheapest_8 : decode cX7_cheapest 8 = .ok (.invokestatic 112, 3) := qd3_158.2.2.2.2.1
theorem dX7_cheapest_11 : decode cX7_cheapest 11 = .ok (.ifCond .ne 10, 3) := qd3_158.2.2.2.2.2.1
theorem dX7_cheapest_14 : decode cX7_cheapest 14 = .ok (.aload_n 0, 1) := qd3_158.2.2.2.2.2.2.1
theorem dX7_cheapest_15 : decode cX7_cheapest 15 = .ok (.bipush (-2), 2) := qd3_158.2.2.2.2.2.2.2.1
theorem dX7_cheapest_17 : decode cX7_cheapest 17 = .ok (.invokevirtual 94, 3) := qd3_158.2.2.2.2.2.2.2.2.1
theorem dX7_cheapest_20 : decode cX7_cheapest 20 = .ok (.ireturn, 1) := qd3_158.2.2.2.2.2.2.2.2.2.1
theorem dX7_cheapest_21 : decode cX7_cheapest 21 = .ok (.aload_n 0, 1) := qd3_158.2.2.2.2.2.2.2.2.2.2.1
theorem dX7_cheapest_22 : decode cX7_cheapest 22 = .ok (.invokevirtual 276, 3) := qd3_158.2.2.2.2.2.2.2.2.2.2.2
theorem qd3_159 : (decode cX7_cheapest 25 = .ok (.aload_n 0, 1)) ∧ (decode cX7_cheapest 26 = .ok (.iload_n 2, 1)) ∧ (decode cX7_cheapest 27 = .ok (.iconst 0, 1)) ∧ (decode cX7_cheapest 28 = .ok (.invokevirtual 264, 3)) ∧ (decode cX7_cheapest 31 = .ok (.aload_n 0, 1)) ∧ (decode cX7_cheapest 32 = .ok (.iload_n 1, 1)) ∧ (decode cX7_cheapest 33 = .ok (.invokevirtual 270, 3)) ∧ (decode cX7_cheapest 36 = .ok (.ldc 254, 2)) ∧ (decode cX7_cheapest 38 = .ok (.if_icmp .lt 12, 3)) ∧ (decode cX7_cheapest 41 = .ok (.aload_n 0, 1)) ∧ (decode cX7_cheapest 42 = .ok (.bipush (-5), 2)) ∧ (decode cX7_cheapest 44 = .ok (.invokevirtual 94, 3)) := by decide +kernel
theorem dX7_cheapest_25 : decode cX7_cheapest 25 = .ok (.aload_n 0, 1) := qd3_159.1
theorem dX7_cheapest_26 : decode cX7_cheapest 26 = .ok (.iload_n 2, 1) := qd3_159.2.1
theorem dX7_cheapest_27 : decode cX7_cheapest 27 = .ok (.iconst 0, 1) := qd3_159.2.2.1
theorem dX7_cheapest_28 : decode cX7_cheapest 28 = .ok (.invokevirtual 264, 3) := qd3_159.2.2.2.1
theorem dX7_cheapest_31 : decode cX7_cheapest 31 = .ok (.aload_n 0, 1) := qd3_159.2.2.2.2.1
theorem dX7_cheapest_32 : decode cX7_cheapest 32 = .ok (.iload_n 1, 1) := qd3_159.2.2.2.2.2.1
theorem dX7_cheapest_33 : decode cX7_cheapest 33 = .ok (.invokevirtual 270, 3) := qd3_159.2.2.2.2.2.2.1
theorem dX7_cheapest_36 : decode cX7_cheapest 36 = .ok (.ldc 254, 2) := qd3_159.2.2.2.2.2.2.2.1
theorem dX7_cheapest_38 : decode cX7_cheapest 38 = .ok (.if_icmp .lt 12, 3) := qd3_159.2.2.2.2.2.2.2.2.1
theorem dX7_cheapest_41 : decode cX7_cheapest 41 = .ok (.aload_n 0, 1) := qd3_159.2.2.2.2.2.2.2.2.2.1
theorem dX7_cheapest_42 : decode cX7_cheapest 42 = .ok (.bipush (-5), 2) := qd3_159.2.2.2.2.2.2.2.2.2.2.1
theorem dX7_cheapest_44 : decode cX7_cheapest 44 = .ok (.invokevirtual 94, 3) := qd3_159.2.2.2.2.2.2.2.2.2.2.2
theorem qd3_160 : (decode cX7_cheapest 47 = .ok (.goto 8, 3)) ∧ (decode cX7_cheapest 50 = .ok (.aload_n 0, 1)) ∧ (decode cX7_cheapest 51 = .ok (.iload_n 1, 1)) ∧ (decode cX7_cheapest 52 = .ok (.invokevirtual 270, 3)) ∧ (decode cX7_cheapest 55 = .ok (.ireturn, 1)) := by decide +kernel
theorem dX7_cheapest_47 : decode cX7_cheapest 47 = .ok (.goto 8, 3) := qd3_160.1
theorem dX7_cheapest_50 : decode cX7_cheapest 50 = .ok (.aload_n 0, 1) := qd3_160.2.1
theorem dX7_cheapest_51 : decode cX7_cheapest 51 = .ok (.iload_n 1, 1) := qd3_160.2.2.1
theorem dX7_cheapest_52 : decode cX7_cheapest 52 = .ok (.invokevirtual 270, 3) := qd3_160.2.2.2.1
theorem dX7_cheapest_55 : decode cX7_cheapest 55 = .ok (.ireturn, 1) := qd3_160.2.2.2.2
theorem qd3_161 : (decode cX7_findGoods 0 = .ok (.aload_n 0, 1)) ∧ (decode cX7_findGoods 1 = .ok (.invokevirtual 276, 3)) ∧ (decode cX7_findGoods 4 = .ok (.aload_n 0, 1)) ∧ (decode cX7_findGoods 5 = .ok (.aload_n 0, 1)) ∧ (decode cX7_findGoods 6 = .ok (.getfield 48, 3)) ∧ (decode cX7_findGoods 9 = .ok (.iload_n 1, 1)) ∧ (decode cX7_findGoods 10 = .ok (.aaload, 1)) ∧ (decode cX7_findGoods 11 = .ok (.iconst 0, 1)) ∧ (decode cX7_findGoods 12 = .ok (.iaload, 1)) ∧ (decode cX7_findGoods 13 = .ok (.aload_n 0, 1)) ∧ (decode cX7_findGoods 14 = .ok (.getfield 48, 3)) ∧ (decode cX7_findGoods 17 = .ok (.iload_n 1, 1)) := by decide +kernel
theorem dX7_findGoods_0 : decode cX7_findGoods 0 = .ok (.aload_n 0, 1) := qd3_161.1
theorem dX7_findGoods_1 : decode cX7_findGoods 1 = .ok (.invokevirtual 276, 3) := qd3_161.2.1
theorem dX7_findGoods_4 : decode cX7_findGoods 4 = .ok (.aload_n 0, 1) := qd3_161.2.2.1
theorem dX7_findGoods_5 : decode cX7_findGoods 5 = .ok (.aload_n 0, 1) := qd3_161.2.2.2.1
theorem dX7_findGoods_6 : decode cX7_findGoods 6 = .ok (.getfield 48, 3) := qd3_161.2.2.2.2.1
theorem dX7_findGoods_9 : decode cX7_findGoods 9 = .ok (.iload_n 1, 1) := qd3_161.2.2.2.2.2.1
theorem dX7_findGoods_10 : decode cX7_findGoods 10 = .ok (.aaload, 1) := qd3_161.2.2.2.2.2.2.1
theorem dX7_findGoods_11 : decode cX7_findGoods 11 = .ok (.iconst 0, 1) := qd3_161.2.2.2.2.2.2.2.1
theorem dX7_findGoods_12 : decode cX7_findGoods 12 = .ok (.iaload, 1) := qd3_161.2.2.2.2.2.2.2.2.1
theorem dX7_findGoods_13 : decode cX7_findGoods 13 = .ok (.aload_n 0, 1) := qd3_161.2.2.2.2.2.2.2.2.2.1
theorem dX7_findGoods_14 : decode cX7_findGoods 14 = .ok (.getfield 48, 3) := qd3_161.2.2.2.2.2.2.2.2.2.2.1
theorem dX7_findGoods_17 : decode cX7_findGoods 17 = .ok (.iload_n 1, 1) := qd3_161.2.2.2.2.2.2.2.2.2.2.2
theorem qd3_162 : (decode cX7_findGoods 18 = .ok (.aaload, 1)) ∧ (decode cX7_findGoods 19 = .ok (.iconst 1, 1)) ∧ (decode cX7_findGoods 20 = .ok (.iaload, 1)) ∧ (decode cX7_findGoods 21 = .ok (.iconst 0, 1)) ∧ (decode cX7_findGoods 22 = .ok (.invokevirtual 279, 3)) ∧ (decode cX7_findGoods 25 = .ok (.ireturn, 1)) := by decide +kernel
theorem dX7_findGoods_18 : decode cX7_findGoods 18 = .ok (.aaload, 1) := qd3_162.1
theorem dX7_findGoods_19 : decode cX7_findGoods 19 = .ok (.iconst 1, 1) := qd3_162.2.1
theorem dX7_findGoods_20 : decode cX7_findGoods 20 = .ok (.iaload, 1) := qd3_162.2.2.1
theorem dX7_findGoods_21 : decode cX7_findGoods 21 = .ok (.iconst 0, 1) := qd3_162.2.2.2.1
theorem dX7_findGoods_22 : decode cX7_findGoods 22 = .ok (.invokevirtual 279, 3) := qd3_162.2.2.2.2.1
theorem dX7_findGoods_25 : decode cX7_findGoods 25 = .ok (.ireturn, 1) := qd3_162.2.2.2.2.2
theorem qd3_163 : (decode cX7_way 0 = .ok (.iload_n 1, 1)) ∧ (decode cX7_way 1 = .ok (.i2l, 1)) ∧ (decode cX7_way 2 = .ok (.lconst 0, 1)) ∧ (decode cX7_way 3 = .ok (.aload_n 0, 1)) ∧ (decode cX7_way 4 = .ok (.getfield 125, 3)) ∧ (decode cX7_way 7 = .ok (.iconst 1, 1)) ∧ (decode cX7_way 8 = .ok (.isub, 1)) ∧ (decode cX7_way 9 = .ok (.i2l, 1)) ∧ (decode cX7_way 10 = .ok (.invokestatic 78, 3)) ∧ (decode cX7_way 13 = .ok (.ifCond .eq 18, 3)) ∧ (decode cX7_way 16 = .ok (.iload_n 2, 1)) ∧ (decode cX7_way 17 = .ok (.ifCond .lt 14, 3)) := by decide +kernel
theorem dX7_way_0 : decode cX7_way 0 = .ok (.iload_n 1, 1) := qd3_163.1
theorem dX7_way_1 : decode cX7_way 1 = .ok (.i2l, 1) := qd3_163.2.1
theorem dX7_way_2 : decode cX7_way 2 = .ok (.lconst 0, 1) := qd3_163.2.2.1
theorem dX7_way_3 : decode cX7_way 3 = .ok (.aload_n 0, 1) := qd3_163.2.2.2.1
theorem dX7_way_4 : decode cX7_way 4 = .ok (.getfield 125, 3) := qd3_163.2.2.2.2.1
theorem dX7_way_7 : decode cX7_way 7 = .ok (.iconst 1, 1) := qd3_163.2.2.2.2.2.1
theorem dX7_way_8 : decode cX7_way 8 = .ok (.isub, 1) := qd3_163.2.2.2.2.2.2.1
theorem dX7_way_9 : decode cX7_way 9 = .ok (.i2l, 1) := qd3_163.2.2.2.2.2.2.2.1
theorem dX7_way_10 : decode cX7_way 10 = .ok (.invokestatic 78, 3) := qd3_163.2.2.2.2.2.2.2.2.1
theorem dX7_way_13 : decode cX7_way 13 = .ok (.ifCond .eq 18, 3) := qd3_163.2.2.2.2.2.2.2.2.2.1
theorem dX7_way_16 : decode cX7_way 16 = .ok (.iload_n 2, 1) := qd3_163.2.2.2.2.2.2.2.2.2.2.1
theorem dX7_way_17 : decode cX7_way 17 = .ok (.ifCond .lt 14, 3) := qd3_163.2.2.2.2.2.2.2.2.2.2.2
theorem qd3_164 : (decode cX7_way 20 = .ok (.iload_n 2, 1)) ∧ (decode cX7_way 21 = .ok (.iconst 3, 1)) ∧ (decode cX7_way 22 = .ok (.if_icmp .le 16, 3)) ∧ (decode cX7_way 25 = .ok (.iload_n 2, 1)) ∧ (decode cX7_way 26 = .ok (.bipush 10, 2)) ∧ (decode cX7_way 28 = .ok (.if_icmp .ge 10, 3)) ∧ (decode cX7_way 31 = .ok (.aload_n 0, 1)) ∧ (decode cX7_way 32 = .ok (.bipush (-2), 2)) ∧ (decode cX7_way 34 = .ok (.invokevirtual 94, 3)) ∧ (decode cX7_way 37 = .ok (.ireturn, 1)) ∧ (decode cX7_way 38 = .ok (.aload_n 0, 1)) ∧ (decode cX7_way 39 = .ok (.iload_n 1, 1)) := by decide +kernel
theorem dX7_way_20 : decode cX7_way 20 = .ok (.iload_n 2, 1) := qd3_164.1
theorem dX7_way_21 : decode cX7_way 21 = .ok (.iconst 3, 1) := qd3_164.2.1
theorem dX7_way_22 : decode cX7_way 22 = .ok (.if_icmp .le 16, 3) := qd3_164.2.2.1
theorem dX7_way_25 : decode cX7_way 25 = .ok (.iload_n 2, 1) := qd3_164.2.2.2.1
theorem dX7_way_26 : decode cX7_way 26 = .ok (.bipush 10, 2) := qd3_164.2.2.2.2.1
theorem dX7_way_28 : decode cX7_way 28 = .ok (.if_icmp .ge 10, 3) := qd3_164.2.2.2.2.2.1
theorem dX7_way_31 : decode cX7_way 31 = .ok (.aload_n 0, 1) := qd3_164.2.2.2.2.2.2.1
theorem dX7_way_32 : decode cX7_way 32 = .ok (.bipush (-2), 2) := qd3_164.2.2.2.2.2.2.2.1
theorem dX7_way_34 : decode cX7_way 34 = .ok (.invokevirtual 94, 3) := qd3_164.2.2.2.2.2.2.2.2.1
theorem dX7_way_37 : decode cX7_way 37 = .ok (.ireturn, 1) := qd3_164.2.2.2.2.2.2.2.2.2.1
theorem dX7_way_38 : decode cX7_way 38 = .ok (.aload_n 0, 1) := qd3_164.2.2.2.2.2.2.2.2.2.2.1
theorem dX7_way_39 : decode cX7_way 39 = .ok (.iload_n 1, 1) := qd3_164.2.2.2.2.2.2.2.2.2.2.2
theorem qd3_165 : (decode cX7_way 40 = .ok (.invokevirtual 282, 3)) ∧ (decode cX7_way 43 = .ok (.istore_n 3, 1)) ∧ (decode cX7_way 44 = .ok (.iconst 0, 1)) ∧ (decode cX7_way 45 = .ok (.istore 4, 2)) ∧ (decode cX7_way 47 = .ok (.iconst (-1), 1)) ∧ (decode cX7_way 48 = .ok (.istore 5, 2)) ∧ (decode cX7_way 50 = .ok (.aload_n 0, 1)) ∧ (decode cX7_way 51 = .ok (.getfield 67, 3)) ∧ (decode cX7_way 54 = .ok (.iconst 0, 1)) ∧ (decode cX7_way 55 = .ok (.iaload, 1)) ∧ (decode cX7_way 56 = .ok (.istore 6, 2)) ∧ (decode cX7_way 58 = .ok (.iconst 1, 1)) := by decide +kernel
theorem dX7_way_40 : decode cX7_way 40 = .ok (.invokevirtual 282, 3) := qd3_165.1
theorem dX7_way_43 : decode cX7_way 43 = .ok (.istore_n 3, 1) := qd3_165.2.1
theorem dX7_way_44 : decode cX7_way 44 = .ok (.iconst 0, 1) := qd3_165.2.2.1
theorem dX7_way_45 : decode cX7_way 45 = .ok (.istore 4, 2) := qd3_165.2.2.2.1
theorem dX7_way_47 : decode cX7_way 47 = .ok (.iconst (-1), 1) := qd3_165.2.2.2.2.1
theorem dX7_way_48 : decode cX7_way 48 = .ok (.istore 5, 2) := qd3_165.2.2.2.2.2.1
theorem dX7_way_50 : decode cX7_way 50 = .ok (.aload_n 0, 1) := qd3_165.2.2.2.2.2.2.1
theorem dX7_way_51 : decode cX7_way 51 = .ok (.getfield 67, 3) := qd3_165.2.2.2.2.2.2.2.1
theorem dX7_way_54 : decode cX7_way 54 = .ok (.iconst 0, 1) := qd3_165.2.2.2.2.2.2.2.2.1
theorem dX7_way_55 : decode cX7_way 55 = .ok (.iaload, 1) := qd3_165.2.2.2.2.2.2.2.2.2.1
theorem dX7_way_56 : decode cX7_way 56 = .ok (.istore 6, 2) := qd3_165.2.2.2.2.2.2.2.2.2.2.1
theorem dX7_way_58 : decode cX7_way 58 = .ok (.iconst 1, 1) := qd3_165.2.2.2.2.2.2.2.2.2.2.2
theorem qd3_166 : (decode cX7_way 59 = .ok (.istore 7, 2)) ∧ (decode cX7_way 61 = .ok (.iload 7, 2)) ∧ (decode cX7_way 63 = .ok (.aload_n 0, 1)) ∧ (decode cX7_way 64 = .ok (.getfield 267, 3)) ∧ (decode cX7_way 67 = .ok (.if_icmp .ge 60, 3)) ∧ (decode cX7_way 70 = .ok (.aload_n 0, 1)) ∧ (decode cX7_way 71 = .ok (.getfield 67, 3)) ∧ (decode cX7_way 74 = .ok (.iload 7, 2)) ∧ (decode cX7_way 76 = .ok (.iaload, 1)) ∧ (decode cX7_way 77 = .ok (.iconst 3, 1)) ∧ (decode cX7_way 78 = .ok (.if_icmp .lt 34, 3)) ∧ (decode cX7_way 81 = .ok (.iload 4, 2)) := by decide +kernel
theorem dX7_way_59 : decode cX7_way 59 = .ok (.istore 7, 2) := qd3_166.1
theorem dX7_way_61 : decode cX7_way 61 = .ok (.iload 7, 2) := qd3_166.2.1
theorem dX7_way_63 : decode cX7_way 63 = .ok (.aload_n 0, 1) := qd3_166.2.2.1
theorem dX7_way_64 : decode cX7_way 64 = .ok (.getfield 267, 3) := qd3_166.2.2.2.1
theorem dX7_way_67 : decode cX7_way 67 = .ok (.if_icmp .ge 60, 3) := qd3_166.2.2.2.2.1
theorem dX7_way_70 : decode cX7_way 70 = .ok (.aload_n 0, 1) := qd3_166.2.2.2.2.2.1
theorem dX7_way_71 : decode cX7_way 71 = .ok (.getfield 67, 3) := qd3_166.2.2.2.2.2.2.1
theorem dX7_way_74 : decode cX7_way 74 = .ok (.iload 7, 2) := qd3_166.2.2.2.2.2.2.2.1
theorem dX7_way_76 : decode cX7_way 76 = .ok (.iaload, 1) := qd3_166.2.2.2.2.2.2.2.2.1
theorem dX7_way_77 : decode cX7_way 77 = .ok (.iconst 3, 1) := qd3_166.2.2.2.2.2.2.2.2.2.1
theorem dX7_way_78 : decode cX7_way 78 = .ok (.if_icmp .lt 34, 3) := qd3_166.2.2.2.2.2.2.2.2.2.2.1
theorem dX7_way_81 : decode cX7_way 81 = .ok (.iload 4, 2) := qd3_166.2.2.2.2.2.2.2.2.2.2.2
theorem qd3_167 : (decode cX7_way 83 = .ok (.iload_n 2, 1)) ∧ (decode cX7_way 84 = .ok (.bipush 10, 2)) ∧ (decode cX7_way 86 = .ok (.isub, 1)) ∧ (decode cX7_way 87 = .ok (.if_icmp .ne 15, 3)) ∧ (decode cX7_way 90 = .ok (.aload_n 0, 1)) ∧ (decode cX7_way 91 = .ok (.getfield 67, 3)) ∧ (decode cX7_way 94 = .ok (.iload 7, 2)) ∧ (decode cX7_way 96 = .ok (.iaload, 1)) ∧ (decode cX7_way 97 = .ok (.iconst 3, 1)) ∧ (decode cX7_way 98 = .ok (.isub, 1)) ∧ (decode cX7_way 99 = .ok (.goto 5, 3)) ∧ (decode cX7_way 102 = .ok (.iload 5, 2)) := by decide +kernel
theorem dX7_way_83 : decode cX7_way 83 = .ok (.iload_n 2, 1) := qd3_167.1
theorem dX7_way_84 : decode cX7_way 84 = .ok (.bipush 10, 2) := qd3_167.2.1
theorem dX7_way_86 : decode cX7_way 86 = .ok (.isub, 1) := qd3_167.2.2.1
theorem dX7_way_87 : decode cX7_way 87 = .ok (.if_icmp .ne 15, 3) := qd3_167.2.2.2.1
theorem dX7_way_90 : decode cX7_way 90 = .ok (.aload_n 0, 1) := qd3_167.2.2.2.2.1
theorem dX7_way_91 : decode cX7_way 91 = .ok (.getfield 67, 3) := qd3_167.2.2.2.2.2.1
theorem dX7_way_94 : decode cX7_way 94 = .ok (.iload 7, 2) := qd3_167.2.2.2.2.2.2.1
theorem dX7_way_96 : decode cX7_way 96 = .ok (.iaload, 1) := qd3_167.2.2.2.2.2.2.2.1
theorem dX7_way_97 : decode cX7_way 97 = .ok (.iconst 3, 1) := qd3_167.2.2.2.2.2.2.2.2.1
theorem dX7_way_98 : decode cX7_way 98 = .ok (.isub, 1) := qd3_167.2.2.2.2.2.2.2.2.2.1
theorem dX7_way_99 : decode cX7_way 99 = .ok (.goto 5, 3) := qd3_167.2.2.2.2.2.2.2.2.2.2.1
theorem dX7_way_102 : decode cX7_way 102 = .ok (.iload 5, 2) := qd3_167.2.2.2.2.2.2.2.2.2.2.2
theorem qd3_168 : (decode cX7_way 104 = .ok (.istore 5, 2)) ∧ (decode cX7_way 106 = .ok (.iinc 4 1, 3)) ∧ (decode cX7_way 109 = .ok (.goto 12, 3)) ∧ (decode cX7_way 112 = .ok (.aload_n 0, 1)) ∧ (decode cX7_way 113 = .ok (.getfield 67, 3)) ∧ (decode cX7_way 116 = .ok (.iload 7, 2)) ∧ (decode cX7_way 118 = .ok (.iaload, 1)) ∧ (decode cX7_way 119 = .ok (.istore 6, 2)) ∧ (decode cX7_way 121 = .ok (.iinc 7 1, 3)) ∧ (decode cX7_way 124 = .ok (.goto (-63), 3)) ∧ (decode cX7_way 127 = .ok (.iload_n 3, 1)) ∧ (decode cX7_way 128 = .ok (.ifCond .eq 22, 3)) := by decide +kernel
theorem dX7_way_104 : decode cX7_way 104 = .ok (.istore 5, 2) := qd3_168.1
theorem dX7_way_106 : decode cX7_way 106 = .ok (.iinc 4 1, 3) := qd3_168.2.1
theorem dX7_way_109 : decode cX7_way 109 = .ok (.goto 12, 3) := qd3_168.2.2.1
theorem dX7_way_112 : decode cX7_way 112 = .ok (.aload_n 0, 1) := qd3_168.2.2.2.1
theorem dX7_way_113 : decode cX7_way 113 = .ok (.getfield 67, 3) := qd3_168.2.2.2.2.1
theorem dX7_way_116 : decode cX7_way 116 = .ok (.iload 7, 2) := qd3_168.2.2.2.2.2.1
theorem dX7_way_118 : decode cX7_way 118 = .ok (.iaload, 1) := qd3_168.2.2.2.2.2.2.1
theorem dX7_way_119 : decode cX7_way 119 = .ok (.istore 6, 2) := qd3_168.2.2.2.2.2.2.2.1
theorem dX7_way_121 : decode cX7_way 121 = .ok (.iinc 7 1, 3) := qd3_168.2.2.2.2.2.2.2.2.1
theorem dX7_way_124 : decode cX7_way 124 = .ok (.goto (-63), 3) := qd3_168.2.2.2.2.2.2.2.2.2.1
theorem dX7_way_127 : decode cX7_way 127 = .ok (.iload_n 3, 1) := qd3_168.2.2.2.2.2.2.2.2.2.2.1
theorem dX7_way_128 : decode cX7_way 128 = .ok (.ifCond .eq 22, 3) := qd3_168.2.2.2.2.2.2.2.2.2.2.2
theorem qd3_169 : (decode cX7_way 131 = .ok (.iload_n 2, 1)) ∧ (decode cX7_way 132 = .ok (.bipush 10, 2)) ∧ (decode cX7_way 134 = .ok (.if_icmp .lt 16, 3)) ∧ (decode cX7_way 137 = .ok (.iload 5, 2)) ∧ (decode cX7_way 139 = .ok (.iconst (-1), 1)) ∧ (decode cX7_way 140 = .ok (.if_icmp .ne 10, 3)) ∧ (decode cX7_way 143 = .ok (.aload_n 0, 1)) ∧ (decode cX7_way 144 = .ok (.bipush (-2), 2)) ∧ (decode cX7_way 146 = .ok (.invokevirtual 94, 3)) ∧ (decode cX7_way 149 = .ok (.ireturn, 1)) ∧ (decode cX7_way 150 = .ok (.iload_n 3, 1)) ∧ (decode cX7_way 151 = .ok (.ifCond .ne 10, 3)) := by decide +kernel
theorem dX7_way_131 : decode cX7_way 131 = .ok (.iload_n 2, 1) := qd3_169.1
theorem dX7_way_132 : decode cX7_way 132 = .ok (.bipush 10, 2) := qd3_169.2.1
theorem dX7_way_134 : decode cX7_way 134 = .ok (.if_icmp .lt 16, 3) := qd3_169.2.2.1
theorem dX7_way_137 : decode cX7_way 137 = .ok (.iload 5, 2) := qd3_169.2.2.2.1
theorem dX7_way_139 : decode cX7_way 139 = .ok (.iconst (-1), 1) := qd3_169.2.2.2.2.1
theorem dX7_way_140 : decode cX7_way 140 = .ok (.if_icmp .ne 10, 3) := qd3_169.2.2.2.2.2.1
theorem dX7_way_143 : decode cX7_way 143 = .ok (.aload_n 0, 1) := qd3_169.2.2.2.2.2.2.1
theorem dX7_way_144 : decode cX7_way 144 = .ok (.bipush (-2), 2) := qd3_169.2.2.2.2.2.2.2.1
theorem dX7_way_146 : decode cX7_way 146 = .ok (.invokevirtual 94, 3) := qd3_169.2.2.2.2.2.2.2.2.1
theorem dX7_way_149 : decode cX7_way 149 = .ok (.ireturn, 1) := qd3_169.2.2.2.2.2.2.2.2.2.1
theorem dX7_way_150 : decode cX7_way 150 = .ok (.iload_n 3, 1) := qd3_169.2.2.2.2.2.2.2.2.2.2.1
theorem dX7_way_151 : decode cX7_way 151 = .ok (.ifCond .ne 10, 3) := qd3_169.2.2.2.2.2.2.2.2.2.2.2
theorem qd3_170 : (decode cX7_way 154 = .ok (.aload_n 0, 1)) ∧ (decode cX7_way 155 = .ok (.bipush (-5), 2)) ∧ (decode cX7_way 157 = .ok (.invokevirtual 94, 3)) ∧ (decode cX7_way 160 = .ok (.ireturn, 1)) ∧ (decode cX7_way 161 = .ok (.iload_n 2, 1)) ∧ (decode cX7_way 162 = .ok (.tableswitch 53 0 3 #[30, 33, 43, 50], 30)) ∧ (decode cX7_way 192 = .ok (.iload 4, 2)) ∧ (decode cX7_way 194 = .ok (.ireturn, 1)) ∧ (decode cX7_way 195 = .ok (.aload_n 0, 1)) ∧ (decode cX7_way 196 = .ok (.getfield 267, 3)) ∧ (decode cX7_way 199 = .ok (.iconst 1, 1)) ∧ (decode cX7_way 200 = .ok (.isub, 1)) := by decide +kernel
theorem dX7_way_154 : decode cX7_way 154 = .ok (.aload_n 0, 1) := qd3_170.1
theorem dX7_way_155 : decode cX7_way 155 = .ok (.bipush (-5), 2) := qd3_170.2.1
theorem dX7_way_157 : decode cX7_way 157 = .ok (.invokevirtual 94, 3) := qd3_170.2.2.1
theorem dX7_way_160 : decode cX7_way 160 = .ok (.ireturn, 1) := qd3_170.2.2.2.1
theorem dX7_way_161 : decode cX7_way 161 = .ok (.iload_n 2, 1) := qd3_170.2.2.2.2.1
theorem dX7_way_162 : decode cX7_way 162 = .ok (.tableswitch 53 0 3 #[30, 33, 43, 50], 30) := qd3_170.2.2.2.2.2.1
theorem dX7_way_192 : decode cX7_way 192 = .ok (.iload 4, 2) := qd3_170.2.2.2.2.2.2.1
theorem dX7_way_194 : decode cX7_way 194 = .ok (.ireturn, 1) := qd3_170.2.2.2.2.2.2.2.1
theorem dX7_way_195 : decode cX7_way 195 = .ok (.aload_n 0, 1) := qd3_170.2.2.2.2.2.2.2.2.1
theorem dX7_way_196 : decode cX7_way 196 = .ok (.getfield 267, 3) := qd3_170.2.2.2.2.2.2.2.2.2.1
theorem dX7_way_199 : decode cX7_way 199 = .ok (.iconst 1, 1) := qd3_170.2.2.2.2.2.2.2.2.2.2.1
theorem dX7_way_200 : decode cX7_way 200 = .ok (.isub, 1) := qd3_170.2.2.2.2.2.2.2.2.2.2.2
theorem qd3_171 : (decode cX7_way 201 = .ok (.iload 4, 2)) ∧ (decode cX7_way 203 = .ok (.isub, 1)) ∧ (decode cX7_way 204 = .ok (.ireturn, 1)) ∧ (decode cX7_way 205 = .ok (.aload_n 0, 1)) ∧ (decode cX7_way 206 = .ok (.getfield 67, 3)) ∧ (decode cX7_way 209 = .ok (.iconst 0, 1)) ∧ (decode cX7_way 210 = .ok (.iaload, 1)) ∧ (decode cX7_way 211 = .ok (.ireturn, 1)) ∧ (decode cX7_way 212 = .ok (.iload 6, 2)) ∧ (decode cX7_way 214 = .ok (.ireturn, 1)) ∧ (decode cX7_way 215 = .ok (.iload 5, 2)) ∧ (decode cX7_way 217 = .ok (.ireturn, 1)) := by decide +kernel
theorem dX7_way_201 : decode cX7_way 201 = .ok (.iload 4, 2) := qd3_171.1
theorem dX7_way_203 : decode cX7_way 203 = .ok (.isub, 1) := qd3_171.2.1
theorem dX7_way_204 : decode cX7_way 204 = .ok (.ireturn, 1) := qd3_171.2.2.1
theorem dX7_way_205 : decode cX7_way 205 = .ok (.aload_n 0, 1) := qd3_171.2.2.2.1
theorem dX7_way_206 : decode cX7_way 206 = .ok (.getfield 67, 3) := qd3_171.2.2.2.2.1
theorem dX7_way_209 : decode cX7_way 209 = .ok (.iconst 0, 1) := qd3_171.2.2.2.2.2.1
theorem dX7_way_210 : decode cX7_way 210 = .ok (.iaload, 1) := qd3_171.2.2.2.2.2.2.1
theorem dX7_way_211 : decode cX7_way 211 = .ok (.ireturn, 1) := qd3_171.2.2.2.2.2.2.2.1
theorem dX7_way_212 : decode cX7_way 212 = .ok (.iload 6, 2) := qd3_171.2.2.2.2.2.2.2.2.1
theorem dX7_way_214 : decode cX7_way 214 = .ok (.ireturn, 1) := qd3_171.2.2.2.2.2.2.2.2.2.1
theorem dX7_way_215 : decode cX7_way 215 = .ok (.iload 5, 2) := qd3_171.2.2.2.2.2.2.2.2.2.2.1
theorem dX7_way_217 : decode cX7_way 217 = .ok (.ireturn, 1) := qd3_171.2.2.2.2.2.2.2.2.2.2.2
