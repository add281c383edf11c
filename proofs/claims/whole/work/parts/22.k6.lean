-- 208: ChairPastModel.trios:(I)I, locals 5
theorem l208 : mL 208 = 5 := by decide +kernel
theorem k208_0 : decode (mB 208) 0 = .ok (.aload_n 0, 1) := by decide +kernel
theorem k208_1 : decode (mB 208) 1 = .ok (.invokevirtual 185, 3) ∧ tVn (mO 208) 185 = some 0 ∧ tV (mO 208) 185 11 = some 181 := by decide +kernel
theorem k208_4 : decode (mB 208) 4 = .ok (.ifCond .ne 6, 3) := by decide +kernel
theorem k208_7 : decode (mB 208) 7 = .ok (.ldc 173, 2) ∧ tK (mO 208) 173 = some (-1000002) := by decide +kernel
theorem k208_9 : decode (mB 208) 9 = .ok (.ireturn, 1) ∧ mR 208 = (some .int) := by decide +kernel
theorem k208_10 : decode (mB 208) 10 = .ok (.iload_n 1, 1) := by decide +kernel
theorem k208_11 : decode (mB 208) 11 = .ok (.iconst 0, 1) := by decide +kernel
theorem k208_12 : decode (mB 208) 12 = .ok (.iconst 1, 1) := by decide +kernel
theorem k208_13 : decode (mB 208) 13 = .ok (.invokestatic 59, 3) ∧ tM (mO 208) 59 = none ∧ tS (mO 208) 59 = some 155 := by decide +kernel
theorem k208_16 : decode (mB 208) 16 = .ok (.ifCond .ne 6, 3) := by decide +kernel
theorem k208_19 : decode (mB 208) 19 = .ok (.ldc 67, 2) ∧ tK (mO 208) 67 = some (-1000001) := by decide +kernel
theorem k208_21 : decode (mB 208) 21 = .ok (.ireturn, 1) ∧ mR 208 = (some .int) := by decide +kernel
theorem k208_22 : decode (mB 208) 22 = .ok (.iconst 0, 1) := by decide +kernel
theorem k208_23 : decode (mB 208) 23 = .ok (.istore_n 2, 1) := by decide +kernel
theorem k208_24 : decode (mB 208) 24 = .ok (.ldc 53, 2) ∧ tK (mO 208) 53 = some (-1000000) := by decide +kernel
theorem k208_26 : decode (mB 208) 26 = .ok (.istore_n 3, 1) := by decide +kernel
theorem k208_27 : decode (mB 208) 27 = .ok (.iconst 0, 1) := by decide +kernel
theorem k208_28 : decode (mB 208) 28 = .ok (.istore 4, 2) := by decide +kernel
theorem k208_30 : decode (mB 208) 30 = .ok (.iload 4, 2) := by decide +kernel
theorem k208_32 : decode (mB 208) 32 = .ok (.aload_n 0, 1) := by decide +kernel
theorem k208_33 : decode (mB 208) 33 = .ok (.getfield 25, 3) ∧ tF (mO 208) 25 = some (11, 13, 1, 1) := by decide +kernel
theorem k208_36 : decode (mB 208) 36 = .ok (.iconst 1, 1) := by decide +kernel
theorem k208_37 : decode (mB 208) 37 = .ok (.iaload, 1) := by decide +kernel
theorem k208_38 : decode (mB 208) 38 = .ok (.if_icmp .ge 35, 3) := by decide +kernel
theorem k208_41 : decode (mB 208) 41 = .ok (.aload_n 0, 1) := by decide +kernel
theorem k208_42 : decode (mB 208) 42 = .ok (.getfield 25, 3) ∧ tF (mO 208) 25 = some (11, 13, 1, 1) := by decide +kernel
theorem k208_45 : decode (mB 208) 45 = .ok (.iload 4, 2) := by decide +kernel
theorem k208_47 : decode (mB 208) 47 = .ok (.invokestatic 163, 3) ∧ tM (mO 208) 163 = none ∧ tS (mO 208) 163 = some 190 := by decide +kernel
theorem k208_50 : decode (mB 208) 50 = .ok (.ifCond .eq 17, 3) := by decide +kernel
theorem k208_53 : decode (mB 208) 53 = .ok (.iload_n 2, 1) := by decide +kernel
theorem k208_54 : decode (mB 208) 54 = .ok (.ifCond .ne 8, 3) := by decide +kernel
theorem k208_57 : decode (mB 208) 57 = .ok (.iload 4, 2) := by decide +kernel
theorem k208_59 : decode (mB 208) 59 = .ok (.goto 4, 3) := by decide +kernel
theorem k208_62 : decode (mB 208) 62 = .ok (.iload_n 3, 1) := by decide +kernel
theorem k208_63 : decode (mB 208) 63 = .ok (.istore_n 3, 1) := by decide +kernel
theorem k208_64 : decode (mB 208) 64 = .ok (.iinc 2 1, 3) := by decide +kernel
theorem k208_67 : decode (mB 208) 67 = .ok (.iinc 4 1, 3) := by decide +kernel
theorem k208_70 : decode (mB 208) 70 = .ok (.goto (-40), 3) := by decide +kernel
theorem k208_73 : decode (mB 208) 73 = .ok (.iload_n 1, 1) := by decide +kernel
theorem k208_74 : decode (mB 208) 74 = .ok (.ifCond .ne 7, 3) := by decide +kernel
theorem k208_77 : decode (mB 208) 77 = .ok (.iload_n 2, 1) := by decide +kernel
theorem k208_78 : decode (mB 208) 78 = .ok (.goto 4, 3) := by decide +kernel
theorem k208_81 : decode (mB 208) 81 = .ok (.iload_n 3, 1) := by decide +kernel
theorem k208_82 : decode (mB 208) 82 = .ok (.ireturn, 1) ∧ mR 208 = (some .int) := by decide +kernel
-- 209: ChairPastModel.owns:(III)I, locals 8
theorem l209 : mL 209 = 8 := by decide +kernel
theorem k209_0 : decode (mB 209) 0 = .ok (.aload_n 0, 1) := by decide +kernel
theorem k209_1 : decode (mB 209) 1 = .ok (.iload_n 1, 1) := by decide +kernel
theorem k209_2 : decode (mB 209) 2 = .ok (.invokevirtual 167, 3) ∧ tVn (mO 209) 167 = some 1 ∧ tV (mO 209) 167 11 = some 183 := by decide +kernel
theorem k209_5 : decode (mB 209) 5 = .ok (.ifCond .eq 10, 3) := by decide +kernel
theorem k209_8 : decode (mB 209) 8 = .ok (.iload_n 2, 1) := by decide +kernel
theorem k209_9 : decode (mB 209) 9 = .ok (.invokestatic 63, 3) ∧ tM (mO 209) 63 = none ∧ tS (mO 209) 63 = some 160 := by decide +kernel
theorem k209_12 : decode (mB 209) 12 = .ok (.ifCond .ne 6, 3) := by decide +kernel
theorem k209_15 : decode (mB 209) 15 = .ok (.ldc 67, 2) ∧ tK (mO 209) 67 = some (-1000001) := by decide +kernel
theorem k209_17 : decode (mB 209) 17 = .ok (.ireturn, 1) ∧ mR 209 = (some .int) := by decide +kernel
theorem k209_18 : decode (mB 209) 18 = .ok (.aload_n 0, 1) := by decide +kernel
theorem k209_19 : decode (mB 209) 19 = .ok (.iload_n 2, 1) := by decide +kernel
theorem k209_20 : decode (mB 209) 20 = .ok (.invokevirtual 75, 3) ∧ tVn (mO 209) 75 = some 1 ∧ tV (mO 209) 75 11 = some 161 := by decide +kernel
theorem k209_23 : decode (mB 209) 23 = .ok (.ifCond .eq 9, 3) := by decide +kernel
theorem k209_26 : decode (mB 209) 26 = .ok (.aload_n 0, 1) := by decide +kernel
theorem k209_27 : decode (mB 209) 27 = .ok (.iconst 1, 1) := by decide +kernel
theorem k209_28 : decode (mB 209) 28 = .ok (.invokevirtual 68, 3) ∧ tVn (mO 209) 68 = some 1 ∧ tV (mO 209) 68 11 = some 157 := by decide +kernel
theorem k209_31 : decode (mB 209) 31 = .ok (.ireturn, 1) ∧ mR 209 = (some .int) := by decide +kernel
theorem k209_32 : decode (mB 209) 32 = .ok (.aload_n 0, 1) := by decide +kernel
theorem k209_33 : decode (mB 209) 33 = .ok (.iload_n 2, 1) := by decide +kernel
theorem k209_34 : decode (mB 209) 34 = .ok (.iload_n 3, 1) := by decide +kernel
theorem k209_35 : decode (mB 209) 35 = .ok (.aload_n 0, 1) := by decide +kernel
theorem k209_36 : decode (mB 209) 36 = .ok (.getfield 25, 3) ∧ tF (mO 209) 25 = some (11, 13, 1, 1) := by decide +kernel
theorem k209_39 : decode (mB 209) 39 = .ok (.iconst 1, 1) := by decide +kernel
theorem k209_40 : decode (mB 209) 40 = .ok (.iaload, 1) := by decide +kernel
theorem k209_41 : decode (mB 209) 41 = .ok (.invokevirtual 82, 3) ∧ tVn (mO 209) 82 = some 3 ∧ tV (mO 209) 82 11 = some 165 := by decide +kernel
theorem k209_44 : decode (mB 209) 44 = .ok (.ifCond .ne 9, 3) := by decide +kernel
theorem k209_47 : decode (mB 209) 47 = .ok (.aload_n 0, 1) := by decide +kernel
theorem k209_48 : decode (mB 209) 48 = .ok (.iconst 2, 1) := by decide +kernel
theorem k209_49 : decode (mB 209) 49 = .ok (.invokevirtual 68, 3) ∧ tVn (mO 209) 68 = some 1 ∧ tV (mO 209) 68 11 = some 157 := by decide +kernel
theorem k209_52 : decode (mB 209) 52 = .ok (.ireturn, 1) ∧ mR 209 = (some .int) := by decide +kernel
theorem k209_53 : decode (mB 209) 53 = .ok (.iconst 0, 1) := by decide +kernel
theorem k209_54 : decode (mB 209) 54 = .ok (.istore 4, 2) := by decide +kernel
theorem k209_56 : decode (mB 209) 56 = .ok (.iconst 0, 1) := by decide +kernel
theorem k209_57 : decode (mB 209) 57 = .ok (.istore 5, 2) := by decide +kernel
theorem k209_59 : decode (mB 209) 59 = .ok (.iload 5, 2) := by decide +kernel
theorem k209_61 : decode (mB 209) 61 = .ok (.bipush 10, 2) := by decide +kernel
theorem k209_63 : decode (mB 209) 63 = .ok (.if_icmp .ge 90, 3) := by decide +kernel
theorem k209_66 : decode (mB 209) 66 = .ok (.iconst 1, 1) := by decide +kernel
theorem k209_67 : decode (mB 209) 67 = .ok (.istore 6, 2) := by decide +kernel
theorem k209_69 : decode (mB 209) 69 = .ok (.iconst 0, 1) := by decide +kernel
theorem k209_70 : decode (mB 209) 70 = .ok (.istore 7, 2) := by decide +kernel
theorem k209_72 : decode (mB 209) 72 = .ok (.iload 7, 2) := by decide +kernel
theorem k209_74 : decode (mB 209) 74 = .ok (.aload_n 0, 1) := by decide +kernel
theorem k209_75 : decode (mB 209) 75 = .ok (.getfield 25, 3) ∧ tF (mO 209) 25 = some (11, 13, 1, 1) := by decide +kernel
theorem k209_78 : decode (mB 209) 78 = .ok (.iconst 1, 1) := by decide +kernel
theorem k209_79 : decode (mB 209) 79 = .ok (.iaload, 1) := by decide +kernel
theorem k209_80 : decode (mB 209) 80 = .ok (.if_icmp .ge 49, 3) := by decide +kernel
theorem k209_83 : decode (mB 209) 83 = .ok (.iload 6, 2) := by decide +kernel
theorem k209_85 : decode (mB 209) 85 = .ok (.ifCond .eq 35, 3) := by decide +kernel
theorem k209_88 : decode (mB 209) 88 = .ok (.aload_n 0, 1) := by decide +kernel
theorem k209_89 : decode (mB 209) 89 = .ok (.getfield 25, 3) ∧ tF (mO 209) 25 = some (11, 13, 1, 1) := by decide +kernel
theorem k209_92 : decode (mB 209) 92 = .ok (.iload 7, 2) := by decide +kernel
theorem k209_94 : decode (mB 209) 94 = .ok (.iload 5, 2) := by decide +kernel
theorem k209_96 : decode (mB 209) 96 = .ok (.invokestatic 152, 3) ∧ tM (mO 209) 152 = none ∧ tS (mO 209) 152 = some 185 := by decide +kernel
theorem k209_99 : decode (mB 209) 99 = .ok (.aload_n 0, 1) := by decide +kernel
theorem k209_100 : decode (mB 209) 100 = .ok (.getfield 16, 3) ∧ tF (mO 209) 16 = some (11, 2, 1, 1) := by decide +kernel
theorem k209_103 : decode (mB 209) 103 = .ok (.bipush 40, 2) := by decide +kernel
theorem k209_105 : decode (mB 209) 105 = .ok (.iload_n 2, 1) := by decide +kernel
theorem k209_106 : decode (mB 209) 106 = .ok (.imul, 1) := by decide +kernel
theorem k209_107 : decode (mB 209) 107 = .ok (.iload_n 3, 1) := by decide +kernel
theorem k209_108 : decode (mB 209) 108 = .ok (.iadd, 1) := by decide +kernel
theorem k209_109 : decode (mB 209) 109 = .ok (.iload 7, 2) := by decide +kernel
theorem k209_111 : decode (mB 209) 111 = .ok (.iadd, 1) := by decide +kernel
theorem k209_112 : decode (mB 209) 112 = .ok (.iaload, 1) := by decide +kernel
theorem k209_113 : decode (mB 209) 113 = .ok (.if_icmp .ne 7, 3) := by decide +kernel
theorem k209_116 : decode (mB 209) 116 = .ok (.iconst 1, 1) := by decide +kernel
theorem k209_117 : decode (mB 209) 117 = .ok (.goto 4, 3) := by decide +kernel
theorem k209_120 : decode (mB 209) 120 = .ok (.iconst 0, 1) := by decide +kernel
theorem k209_121 : decode (mB 209) 121 = .ok (.istore 6, 2) := by decide +kernel
theorem k209_123 : decode (mB 209) 123 = .ok (.iinc 7 1, 3) := by decide +kernel
theorem k209_126 : decode (mB 209) 126 = .ok (.goto (-54), 3) := by decide +kernel
theorem k209_129 : decode (mB 209) 129 = .ok (.iload 4, 2) := by decide +kernel
theorem k209_131 : decode (mB 209) 131 = .ok (.iload 6, 2) := by decide +kernel
theorem k209_133 : decode (mB 209) 133 = .ok (.ifCond .eq 10, 3) := by decide +kernel
theorem k209_136 : decode (mB 209) 136 = .ok (.iconst 1, 1) := by decide +kernel
theorem k209_137 : decode (mB 209) 137 = .ok (.iload 5, 2) := by decide +kernel
theorem k209_139 : decode (mB 209) 139 = .ok (.ishl, 1) := by decide +kernel
theorem k209_140 : decode (mB 209) 140 = .ok (.goto 4, 3) := by decide +kernel
theorem k209_143 : decode (mB 209) 143 = .ok (.iconst 0, 1) := by decide +kernel
theorem k209_144 : decode (mB 209) 144 = .ok (.ior, 1) := by decide +kernel
theorem k209_145 : decode (mB 209) 145 = .ok (.istore 4, 2) := by decide +kernel
theorem k209_147 : decode (mB 209) 147 = .ok (.iinc 5 1, 3) := by decide +kernel
theorem k209_150 : decode (mB 209) 150 = .ok (.goto (-91), 3) := by decide +kernel
theorem k209_153 : decode (mB 209) 153 = .ok (.aload_n 0, 1) := by decide +kernel
theorem k209_154 : decode (mB 209) 154 = .ok (.iload 4, 2) := by decide +kernel
theorem k209_156 : decode (mB 209) 156 = .ok (.invokevirtual 72, 3) ∧ tVn (mO 209) 72 = some 1 ∧ tV (mO 209) 72 11 = some 158 := by decide +kernel
theorem k209_159 : decode (mB 209) 159 = .ok (.ireturn, 1) ∧ mR 209 = (some .int) := by decide +kernel
-- 210: ChairPastModel.fits:(IIII)I, locals 11
theorem l210 : mL 210 = 11 := by decide +kernel
theorem k210_0 : decode (mB 210) 0 = .ok (.aload_n 0, 1) := by decide +kernel
theorem k210_1 : decode (mB 210) 1 = .ok (.iload_n 1, 1) := by decide +kernel
theorem k210_2 : decode (mB 210) 2 = .ok (.invokevirtual 170, 3) ∧ tVn (mO 210) 170 = some 1 ∧ tV (mO 210) 170 11 = some 182 := by decide +kernel
theorem k210_5 : decode (mB 210) 5 = .ok (.ifCond .eq 20, 3) := by decide +kernel
theorem k210_8 : decode (mB 210) 8 = .ok (.iload_n 2, 1) := by decide +kernel
theorem k210_9 : decode (mB 210) 9 = .ok (.invokestatic 63, 3) ∧ tM (mO 210) 63 = none ∧ tS (mO 210) 63 = some 160 := by decide +kernel
theorem k210_12 : decode (mB 210) 12 = .ok (.ifCond .eq 13, 3) := by decide +kernel
theorem k210_15 : decode (mB 210) 15 = .ok (.iload 4, 2) := by decide +kernel
theorem k210_17 : decode (mB 210) 17 = .ok (.iconst 0, 1) := by decide +kernel
theorem k210_18 : decode (mB 210) 18 = .ok (.iconst 2, 1) := by decide +kernel
theorem k210_19 : decode (mB 210) 19 = .ok (.invokestatic 59, 3) ∧ tM (mO 210) 59 = none ∧ tS (mO 210) 59 = some 155 := by decide +kernel
theorem k210_22 : decode (mB 210) 22 = .ok (.ifCond .ne 6, 3) := by decide +kernel
theorem k210_25 : decode (mB 210) 25 = .ok (.ldc 67, 2) ∧ tK (mO 210) 67 = some (-1000001) := by decide +kernel
theorem k210_27 : decode (mB 210) 27 = .ok (.ireturn, 1) ∧ mR 210 = (some .int) := by decide +kernel
theorem k210_28 : decode (mB 210) 28 = .ok (.aload_n 0, 1) := by decide +kernel
theorem k210_29 : decode (mB 210) 29 = .ok (.iload_n 2, 1) := by decide +kernel
theorem k210_30 : decode (mB 210) 30 = .ok (.invokevirtual 75, 3) ∧ tVn (mO 210) 75 = some 1 ∧ tV (mO 210) 75 11 = some 161 := by decide +kernel
theorem k210_33 : decode (mB 210) 33 = .ok (.ifCond .eq 9, 3) := by decide +kernel
theorem k210_36 : decode (mB 210) 36 = .ok (.aload_n 0, 1) := by decide +kernel
theorem k210_37 : decode (mB 210) 37 = .ok (.iconst 1, 1) := by decide +kernel
theorem k210_38 : decode (mB 210) 38 = .ok (.invokevirtual 68, 3) ∧ tVn (mO 210) 68 = some 1 ∧ tV (mO 210) 68 11 = some 157 := by decide +kernel
theorem k210_41 : decode (mB 210) 41 = .ok (.ireturn, 1) ∧ mR 210 = (some .int) := by decide +kernel
theorem k210_42 : decode (mB 210) 42 = .ok (.aload_n 0, 1) := by decide +kernel
theorem k210_43 : decode (mB 210) 43 = .ok (.iload_n 2, 1) := by decide +kernel
theorem k210_44 : decode (mB 210) 44 = .ok (.iload_n 3, 1) := by decide +kernel
theorem k210_45 : decode (mB 210) 45 = .ok (.aload_n 0, 1) := by decide +kernel
theorem k210_46 : decode (mB 210) 46 = .ok (.getfield 25, 3) ∧ tF (mO 210) 25 = some (11, 13, 1, 1) := by decide +kernel
theorem k210_49 : decode (mB 210) 49 = .ok (.iconst 2, 1) := by decide +kernel
theorem k210_50 : decode (mB 210) 50 = .ok (.iaload, 1) := by decide +kernel
theorem k210_51 : decode (mB 210) 51 = .ok (.invokevirtual 82, 3) ∧ tVn (mO 210) 82 = some 3 ∧ tV (mO 210) 82 11 = some 165 := by decide +kernel
theorem k210_54 : decode (mB 210) 54 = .ok (.ifCond .ne 9, 3) := by decide +kernel
theorem k210_57 : decode (mB 210) 57 = .ok (.aload_n 0, 1) := by decide +kernel
theorem k210_58 : decode (mB 210) 58 = .ok (.iconst 2, 1) := by decide +kernel
theorem k210_59 : decode (mB 210) 59 = .ok (.invokevirtual 68, 3) ∧ tVn (mO 210) 68 = some 1 ∧ tV (mO 210) 68 11 = some 157 := by decide +kernel
theorem k210_62 : decode (mB 210) 62 = .ok (.ireturn, 1) ∧ mR 210 = (some .int) := by decide +kernel
theorem k210_63 : decode (mB 210) 63 = .ok (.iconst 3, 1) := by decide +kernel
theorem k210_64 : decode (mB 210) 64 = .ok (.iconst 5, 1) := by decide +kernel
theorem k210_65 : decode (mB 210) 65 = .ok (.iload_n 1, 1) := by decide +kernel
theorem k210_66 : decode (mB 210) 66 = .ok (.imul, 1) := by decide +kernel
theorem k210_67 : decode (mB 210) 67 = .ok (.iadd, 1) := by decide +kernel
theorem k210_68 : decode (mB 210) 68 = .ok (.iload 4, 2) := by decide +kernel
theorem k210_70 : decode (mB 210) 70 = .ok (.iconst 2, 1) := by decide +kernel
theorem k210_71 : decode (mB 210) 71 = .ok (.if_icmp .ne 7, 3) := by decide +kernel
theorem k210_74 : decode (mB 210) 74 = .ok (.iconst 0, 1) := by decide +kernel
theorem k210_75 : decode (mB 210) 75 = .ok (.goto 7, 3) := by decide +kernel
theorem k210_78 : decode (mB 210) 78 = .ok (.iconst 1, 1) := by decide +kernel
theorem k210_79 : decode (mB 210) 79 = .ok (.iload 4, 2) := by decide +kernel
theorem k210_81 : decode (mB 210) 81 = .ok (.iadd, 1) := by decide +kernel
theorem k210_82 : decode (mB 210) 82 = .ok (.iadd, 1) := by decide +kernel
theorem k210_83 : decode (mB 210) 83 = .ok (.istore 5, 2) := by decide +kernel
theorem k210_85 : decode (mB 210) 85 = .ok (.iconst 0, 1) := by decide +kernel
theorem k210_86 : decode (mB 210) 86 = .ok (.istore 6, 2) := by decide +kernel
theorem k210_88 : decode (mB 210) 88 = .ok (.iload 4, 2) := by decide +kernel
theorem k210_90 : decode (mB 210) 90 = .ok (.iconst 2, 1) := by decide +kernel
theorem k210_91 : decode (mB 210) 91 = .ok (.if_icmp .ne 7, 3) := by decide +kernel
theorem k210_94 : decode (mB 210) 94 = .ok (.iconst 1, 1) := by decide +kernel
theorem k210_95 : decode (mB 210) 95 = .ok (.goto 4, 3) := by decide +kernel
theorem k210_98 : decode (mB 210) 98 = .ok (.iconst 0, 1) := by decide +kernel
theorem k210_99 : decode (mB 210) 99 = .ok (.istore 7, 2) := by decide +kernel
theorem k210_101 : decode (mB 210) 101 = .ok (.iload 7, 2) := by decide +kernel
theorem k210_103 : decode (mB 210) 103 = .ok (.iload 4, 2) := by decide +kernel
theorem k210_105 : decode (mB 210) 105 = .ok (.ifCond .ne 8, 3) := by decide +kernel
theorem k210_108 : decode (mB 210) 108 = .ok (.bipush 9, 2) := by decide +kernel
theorem k210_110 : decode (mB 210) 110 = .ok (.goto 15, 3) := by decide +kernel
theorem k210_113 : decode (mB 210) 113 = .ok (.iload 4, 2) := by decide +kernel
theorem k210_115 : decode (mB 210) 115 = .ok (.iconst 1, 1) := by decide +kernel
theorem k210_116 : decode (mB 210) 116 = .ok (.if_icmp .ne 8, 3) := by decide +kernel
theorem k210_119 : decode (mB 210) 119 = .ok (.bipush 16, 2) := by decide +kernel
theorem k210_121 : decode (mB 210) 121 = .ok (.goto 4, 3) := by decide +kernel
theorem k210_124 : decode (mB 210) 124 = .ok (.iconst 5, 1) := by decide +kernel
theorem k210_125 : decode (mB 210) 125 = .ok (.if_icmp .gt 115, 3) := by decide +kernel
theorem k210_128 : decode (mB 210) 128 = .ok (.aload_n 0, 1) := by decide +kernel
theorem k210_129 : decode (mB 210) 129 = .ok (.getfield 25, 3) ∧ tF (mO 210) 25 = some (11, 13, 1, 1) := by decide +kernel
theorem k210_132 : decode (mB 210) 132 = .ok (.iconst 0, 1) := by decide +kernel
theorem k210_133 : decode (mB 210) 133 = .ok (.aload_n 0, 1) := by decide +kernel
theorem k210_134 : decode (mB 210) 134 = .ok (.getfield 31, 3) ∧ tF (mO 210) 31 = some (11, 15, 1, 1) := by decide +kernel
theorem k210_137 : decode (mB 210) 137 = .ok (.iconst 0, 1) := by decide +kernel
theorem k210_138 : decode (mB 210) 138 = .ok (.invokestatic 141, 3) ∧ tM (mO 210) 141 = none ∧ tS (mO 210) 141 = some 159 := by decide +kernel
theorem k210_141 : decode (mB 210) 141 = .ok (.aload_n 0, 1) := by decide +kernel
theorem k210_142 : decode (mB 210) 142 = .ok (.getfield 31, 3) ∧ tF (mO 210) 31 = some (11, 15, 1, 1) := by decide +kernel
theorem k210_145 : decode (mB 210) 145 = .ok (.iload 5, 2) := by decide +kernel
theorem k210_147 : decode (mB 210) 147 = .ok (.iload 7, 2) := by decide +kernel
theorem k210_149 : decode (mB 210) 149 = .ok (.iastore, 1) := by decide +kernel
theorem k210_150 : decode (mB 210) 150 = .ok (.iconst 1, 1) := by decide +kernel
theorem k210_151 : decode (mB 210) 151 = .ok (.istore 8, 2) := by decide +kernel
theorem k210_153 : decode (mB 210) 153 = .ok (.iconst 0, 1) := by decide +kernel
theorem k210_154 : decode (mB 210) 154 = .ok (.istore 9, 2) := by decide +kernel
theorem k210_156 : decode (mB 210) 156 = .ok (.iload 9, 2) := by decide +kernel
theorem k210_158 : decode (mB 210) 158 = .ok (.aload_n 0, 1) := by decide +kernel
theorem k210_159 : decode (mB 210) 159 = .ok (.getfield 25, 3) ∧ tF (mO 210) 25 = some (11, 13, 1, 1) := by decide +kernel
theorem k210_162 : decode (mB 210) 162 = .ok (.iconst 2, 1) := by decide +kernel
theorem k210_163 : decode (mB 210) 163 = .ok (.iaload, 1) := by decide +kernel
theorem k210_164 : decode (mB 210) 164 = .ok (.if_icmp .ge 52, 3) := by decide +kernel
theorem k210_167 : decode (mB 210) 167 = .ok (.aload_n 0, 1) := by decide +kernel
theorem k210_168 : decode (mB 210) 168 = .ok (.getfield 31, 3) ∧ tF (mO 210) 31 = some (11, 15, 1, 1) := by decide +kernel
theorem k210_171 : decode (mB 210) 171 = .ok (.iload 9, 2) := by decide +kernel
theorem k210_173 : decode (mB 210) 173 = .ok (.iload_n 1, 1) := by decide +kernel
theorem k210_174 : decode (mB 210) 174 = .ok (.invokestatic 156, 3) ∧ tM (mO 210) 156 = none ∧ tS (mO 210) 156 = some 186 := by decide +kernel
theorem k210_177 : decode (mB 210) 177 = .ok (.istore 10, 2) := by decide +kernel
theorem k210_179 : decode (mB 210) 179 = .ok (.iload 8, 2) := by decide +kernel
theorem k210_181 : decode (mB 210) 181 = .ok (.ifCond .eq 26, 3) := by decide +kernel
theorem k210_184 : decode (mB 210) 184 = .ok (.iload 10, 2) := by decide +kernel
theorem k210_186 : decode (mB 210) 186 = .ok (.aload_n 0, 1) := by decide +kernel
theorem k210_187 : decode (mB 210) 187 = .ok (.getfield 16, 3) ∧ tF (mO 210) 16 = some (11, 2, 1, 1) := by decide +kernel
theorem k210_190 : decode (mB 210) 190 = .ok (.bipush 40, 2) := by decide +kernel
theorem k210_192 : decode (mB 210) 192 = .ok (.iload_n 2, 1) := by decide +kernel
theorem k210_193 : decode (mB 210) 193 = .ok (.imul, 1) := by decide +kernel
theorem k210_194 : decode (mB 210) 194 = .ok (.iload_n 3, 1) := by decide +kernel
theorem k210_195 : decode (mB 210) 195 = .ok (.iadd, 1) := by decide +kernel
theorem k210_196 : decode (mB 210) 196 = .ok (.iload 9, 2) := by decide +kernel
theorem k210_198 : decode (mB 210) 198 = .ok (.iadd, 1) := by decide +kernel
theorem k210_199 : decode (mB 210) 199 = .ok (.iaload, 1) := by decide +kernel
theorem k210_200 : decode (mB 210) 200 = .ok (.if_icmp .ne 7, 3) := by decide +kernel
theorem k210_203 : decode (mB 210) 203 = .ok (.iconst 1, 1) := by decide +kernel
theorem k210_204 : decode (mB 210) 204 = .ok (.goto 4, 3) := by decide +kernel
theorem k210_207 : decode (mB 210) 207 = .ok (.iconst 0, 1) := by decide +kernel
theorem k210_208 : decode (mB 210) 208 = .ok (.istore 8, 2) := by decide +kernel
theorem k210_210 : decode (mB 210) 210 = .ok (.iinc 9 1, 3) := by decide +kernel
theorem k210_213 : decode (mB 210) 213 = .ok (.goto (-57), 3) := by decide +kernel
theorem k210_216 : decode (mB 210) 216 = .ok (.iload 6, 2) := by decide +kernel
theorem k210_218 : decode (mB 210) 218 = .ok (.iload 8, 2) := by decide +kernel
theorem k210_220 : decode (mB 210) 220 = .ok (.ifCond .eq 10, 3) := by decide +kernel
theorem k210_223 : decode (mB 210) 223 = .ok (.iconst 1, 1) := by decide +kernel
theorem k210_224 : decode (mB 210) 224 = .ok (.iload 7, 2) := by decide +kernel
theorem k210_226 : decode (mB 210) 226 = .ok (.ishl, 1) := by decide +kernel
theorem k210_227 : decode (mB 210) 227 = .ok (.goto 4, 3) := by decide +kernel
theorem k210_230 : decode (mB 210) 230 = .ok (.iconst 0, 1) := by decide +kernel
theorem k210_231 : decode (mB 210) 231 = .ok (.ior, 1) := by decide +kernel
theorem k210_232 : decode (mB 210) 232 = .ok (.istore 6, 2) := by decide +kernel
theorem k210_234 : decode (mB 210) 234 = .ok (.iinc 7 1, 3) := by decide +kernel
theorem k210_237 : decode (mB 210) 237 = .ok (.goto (-136), 3) := by decide +kernel
theorem k210_240 : decode (mB 210) 240 = .ok (.aload_n 0, 1) := by decide +kernel
theorem k210_241 : decode (mB 210) 241 = .ok (.iload 6, 2) := by decide +kernel
theorem k210_243 : decode (mB 210) 243 = .ok (.invokevirtual 72, 3) ∧ tVn (mO 210) 72 = some 1 ∧ tV (mO 210) 72 11 = some 158 := by decide +kernel
theorem k210_246 : decode (mB 210) 246 = .ok (.ireturn, 1) ∧ mR 210 = (some .int) := by decide +kernel
-- 211: ChairPastModel.sitDown:()V, locals 3
theorem l211 : mL 211 = 3 := by decide +kernel
theorem k211_0 : decode (mB 211) 0 = .ok (.iconst 0, 1) := by decide +kernel
theorem k211_1 : decode (mB 211) 1 = .ok (.istore_n 1, 1) := by decide +kernel
theorem k211_2 : decode (mB 211) 2 = .ok (.iload_n 1, 1) := by decide +kernel
theorem k211_3 : decode (mB 211) 3 = .ok (.aload_n 0, 1) := by decide +kernel
theorem k211_4 : decode (mB 211) 4 = .ok (.getfield 31, 3) ∧ tF (mO 211) 31 = some (11, 15, 1, 1) := by decide +kernel
theorem k211_7 : decode (mB 211) 7 = .ok (.iconst 2, 1) := by decide +kernel
theorem k211_8 : decode (mB 211) 8 = .ok (.iaload, 1) := by decide +kernel
theorem k211_9 : decode (mB 211) 9 = .ok (.if_icmp .ge 75, 3) := by decide +kernel
theorem k211_12 : decode (mB 211) 12 = .ok (.iconst 0, 1) := by decide +kernel
theorem k211_13 : decode (mB 211) 13 = .ok (.istore_n 2, 1) := by decide +kernel
theorem k211_14 : decode (mB 211) 14 = .ok (.iload_n 2, 1) := by decide +kernel
theorem k211_15 : decode (mB 211) 15 = .ok (.aload_n 0, 1) := by decide +kernel
theorem k211_16 : decode (mB 211) 16 = .ok (.getfield 31, 3) ∧ tF (mO 211) 31 = some (11, 15, 1, 1) := by decide +kernel
theorem k211_19 : decode (mB 211) 19 = .ok (.iconst 1, 1) := by decide +kernel
theorem k211_20 : decode (mB 211) 20 = .ok (.iaload, 1) := by decide +kernel
theorem k211_21 : decode (mB 211) 21 = .ok (.if_icmp .ge 22, 3) := by decide +kernel
theorem k211_24 : decode (mB 211) 24 = .ok (.aload_n 0, 1) := by decide +kernel
theorem k211_25 : decode (mB 211) 25 = .ok (.getfield 31, 3) ∧ tF (mO 211) 31 = some (11, 15, 1, 1) := by decide +kernel
theorem k211_28 : decode (mB 211) 28 = .ok (.iload_n 2, 1) := by decide +kernel
theorem k211_29 : decode (mB 211) 29 = .ok (.invokestatic 159, 3) ∧ tM (mO 211) 159 = none ∧ tS (mO 211) 159 = some 187 := by decide +kernel
theorem k211_32 : decode (mB 211) 32 = .ok (.ldc 53, 2) ∧ tK (mO 211) 53 = some (-1000000) := by decide +kernel
theorem k211_34 : decode (mB 211) 34 = .ok (.if_icmp .eq 9, 3) := by decide +kernel
theorem k211_37 : decode (mB 211) 37 = .ok (.iinc 2 1, 3) := by decide +kernel
theorem k211_40 : decode (mB 211) 40 = .ok (.goto (-26), 3) := by decide +kernel
theorem k211_43 : decode (mB 211) 43 = .ok (.aload_n 0, 1) := by decide +kernel
theorem k211_44 : decode (mB 211) 44 = .ok (.getfield 31, 3) ∧ tF (mO 211) 31 = some (11, 15, 1, 1) := by decide +kernel
theorem k211_47 : decode (mB 211) 47 = .ok (.bipush 28, 2) := by decide +kernel
theorem k211_49 : decode (mB 211) 49 = .ok (.iconst 4, 1) := by decide +kernel
theorem k211_50 : decode (mB 211) 50 = .ok (.iload_n 1, 1) := by decide +kernel
theorem k211_51 : decode (mB 211) 51 = .ok (.imul, 1) := by decide +kernel
theorem k211_52 : decode (mB 211) 52 = .ok (.iadd, 1) := by decide +kernel
theorem k211_53 : decode (mB 211) 53 = .ok (.iconst 2, 1) := by decide +kernel
theorem k211_54 : decode (mB 211) 54 = .ok (.iadd, 1) := by decide +kernel
theorem k211_55 : decode (mB 211) 55 = .ok (.iaload, 1) := by decide +kernel
theorem k211_56 : decode (mB 211) 56 = .ok (.ifCond .ne 22, 3) := by decide +kernel
theorem k211_59 : decode (mB 211) 59 = .ok (.iload_n 2, 1) := by decide +kernel
theorem k211_60 : decode (mB 211) 60 = .ok (.aload_n 0, 1) := by decide +kernel
theorem k211_61 : decode (mB 211) 61 = .ok (.getfield 31, 3) ∧ tF (mO 211) 31 = some (11, 15, 1, 1) := by decide +kernel
theorem k211_64 : decode (mB 211) 64 = .ok (.iconst 1, 1) := by decide +kernel
theorem k211_65 : decode (mB 211) 65 = .ok (.iaload, 1) := by decide +kernel
theorem k211_66 : decode (mB 211) 66 = .ok (.if_icmp .ge 12, 3) := by decide +kernel
theorem k211_69 : decode (mB 211) 69 = .ok (.aload_n 0, 1) := by decide +kernel
theorem k211_70 : decode (mB 211) 70 = .ok (.getfield 31, 3) ∧ tF (mO 211) 31 = some (11, 15, 1, 1) := by decide +kernel
theorem k211_73 : decode (mB 211) 73 = .ok (.iload_n 1, 1) := by decide +kernel
theorem k211_74 : decode (mB 211) 74 = .ok (.iload_n 2, 1) := by decide +kernel
theorem k211_75 : decode (mB 211) 75 = .ok (.invokestatic 177, 3) ∧ tM (mO 211) 177 = none ∧ tS (mO 211) 177 = some 188 := by decide +kernel
theorem k211_78 : decode (mB 211) 78 = .ok (.iinc 1 1, 3) := by decide +kernel
theorem k211_81 : decode (mB 211) 81 = .ok (.goto (-79), 3) := by decide +kernel
theorem k211_84 : decode (mB 211) 84 = .ok (.return_, 1) ∧ mR 211 = none := by decide +kernel
-- 212: ChairPastModel.caned:(III)I, locals 9
theorem l212 : mL 212 = 9 := by decide +kernel
theorem k212_0 : decode (mB 212) 0 = .ok (.aload_n 0, 1) := by decide +kernel
theorem k212_1 : decode (mB 212) 1 = .ok (.invokevirtual 185, 3) ∧ tVn (mO 212) 185 = some 0 ∧ tV (mO 212) 185 11 = some 181 := by decide +kernel
theorem k212_4 : decode (mB 212) 4 = .ok (.ifCond .ne 6, 3) := by decide +kernel
theorem k212_7 : decode (mB 212) 7 = .ok (.ldc 173, 2) ∧ tK (mO 212) 173 = some (-1000002) := by decide +kernel
theorem k212_9 : decode (mB 212) 9 = .ok (.ireturn, 1) ∧ mR 212 = (some .int) := by decide +kernel
theorem k212_10 : decode (mB 212) 10 = .ok (.iload_n 1, 1) := by decide +kernel
theorem k212_11 : decode (mB 212) 11 = .ok (.iconst 0, 1) := by decide +kernel
theorem k212_12 : decode (mB 212) 12 = .ok (.bipush 40, 2) := by decide +kernel
theorem k212_14 : decode (mB 212) 14 = .ok (.invokestatic 59, 3) ∧ tM (mO 212) 59 = none ∧ tS (mO 212) 59 = some 155 := by decide +kernel
theorem k212_17 : decode (mB 212) 17 = .ok (.ifCond .eq 22, 3) := by decide +kernel
theorem k212_20 : decode (mB 212) 20 = .ok (.iload_n 2, 1) := by decide +kernel
theorem k212_21 : decode (mB 212) 21 = .ok (.iconst 0, 1) := by decide +kernel
theorem k212_22 : decode (mB 212) 22 = .ok (.bipush 10, 2) := by decide +kernel
theorem k212_24 : decode (mB 212) 24 = .ok (.invokestatic 59, 3) ∧ tM (mO 212) 59 = none ∧ tS (mO 212) 59 = some 155 := by decide +kernel
theorem k212_27 : decode (mB 212) 27 = .ok (.ifCond .eq 12, 3) := by decide +kernel
theorem k212_30 : decode (mB 212) 30 = .ok (.iload_n 3, 1) := by decide +kernel
theorem k212_31 : decode (mB 212) 31 = .ok (.iconst 0, 1) := by decide +kernel
theorem k212_32 : decode (mB 212) 32 = .ok (.iconst 1, 1) := by decide +kernel
theorem k212_33 : decode (mB 212) 33 = .ok (.invokestatic 59, 3) ∧ tM (mO 212) 59 = none ∧ tS (mO 212) 59 = some 155 := by decide +kernel
theorem k212_36 : decode (mB 212) 36 = .ok (.ifCond .ne 6, 3) := by decide +kernel
theorem k212_39 : decode (mB 212) 39 = .ok (.ldc 67, 2) ∧ tK (mO 212) 67 = some (-1000001) := by decide +kernel
theorem k212_41 : decode (mB 212) 41 = .ok (.ireturn, 1) ∧ mR 212 = (some .int) := by decide +kernel
theorem k212_42 : decode (mB 212) 42 = .ok (.iconst 0, 1) := by decide +kernel
theorem k212_43 : decode (mB 212) 43 = .ok (.istore 4, 2) := by decide +kernel
theorem k212_45 : decode (mB 212) 45 = .ok (.iconst 1, 1) := by decide +kernel
theorem k212_46 : decode (mB 212) 46 = .ok (.istore 5, 2) := by decide +kernel
theorem k212_48 : decode (mB 212) 48 = .ok (.iconst 0, 1) := by decide +kernel
theorem k212_49 : decode (mB 212) 49 = .ok (.istore 6, 2) := by decide +kernel
theorem k212_51 : decode (mB 212) 51 = .ok (.iload 6, 2) := by decide +kernel
theorem k212_53 : decode (mB 212) 53 = .ok (.aload_n 0, 1) := by decide +kernel
theorem k212_54 : decode (mB 212) 54 = .ok (.getfield 25, 3) ∧ tF (mO 212) 25 = some (11, 13, 1, 1) := by decide +kernel
theorem k212_57 : decode (mB 212) 57 = .ok (.iconst 1, 1) := by decide +kernel
theorem k212_58 : decode (mB 212) 58 = .ok (.iaload, 1) := by decide +kernel
theorem k212_59 : decode (mB 212) 59 = .ok (.if_icmp .ge 16, 3) := by decide +kernel
theorem k212_62 : decode (mB 212) 62 = .ok (.iload 5, 2) := by decide +kernel
theorem k212_64 : decode (mB 212) 64 = .ok (.bipush 10, 2) := by decide +kernel
theorem k212_66 : decode (mB 212) 66 = .ok (.imul, 1) := by decide +kernel
theorem k212_67 : decode (mB 212) 67 = .ok (.istore 5, 2) := by decide +kernel
theorem k212_69 : decode (mB 212) 69 = .ok (.iinc 6 1, 3) := by decide +kernel
theorem k212_72 : decode (mB 212) 72 = .ok (.goto (-21), 3) := by decide +kernel
theorem k212_75 : decode (mB 212) 75 = .ok (.iconst 0, 1) := by decide +kernel
theorem k212_76 : decode (mB 212) 76 = .ok (.istore 6, 2) := by decide +kernel
theorem k212_78 : decode (mB 212) 78 = .ok (.iload 6, 2) := by decide +kernel
theorem k212_80 : decode (mB 212) 80 = .ok (.iconst 1, 1) := by decide +kernel
theorem k212_81 : decode (mB 212) 81 = .ok (.aload_n 0, 1) := by decide +kernel
theorem k212_82 : decode (mB 212) 82 = .ok (.getfield 25, 3) ∧ tF (mO 212) 25 = some (11, 13, 1, 1) := by decide +kernel
theorem k212_85 : decode (mB 212) 85 = .ok (.iconst 1, 1) := by decide +kernel
theorem k212_86 : decode (mB 212) 86 = .ok (.iaload, 1) := by decide +kernel
theorem k212_87 : decode (mB 212) 87 = .ok (.ishl, 1) := by decide +kernel
theorem k212_88 : decode (mB 212) 88 = .ok (.if_icmp .ge 134, 3) := by decide +kernel
theorem k212_91 : decode (mB 212) 91 = .ok (.iconst 1, 1) := by decide +kernel
theorem k212_92 : decode (mB 212) 92 = .ok (.istore 7, 2) := by decide +kernel
theorem k212_94 : decode (mB 212) 94 = .ok (.aload_n 0, 1) := by decide +kernel
theorem k212_95 : decode (mB 212) 95 = .ok (.getfield 25, 3) ∧ tF (mO 212) 25 = some (11, 13, 1, 1) := by decide +kernel
theorem k212_98 : decode (mB 212) 98 = .ok (.iconst 0, 1) := by decide +kernel
theorem k212_99 : decode (mB 212) 99 = .ok (.aload_n 0, 1) := by decide +kernel
theorem k212_100 : decode (mB 212) 100 = .ok (.getfield 31, 3) ∧ tF (mO 212) 31 = some (11, 15, 1, 1) := by decide +kernel
theorem k212_103 : decode (mB 212) 103 = .ok (.iconst 0, 1) := by decide +kernel
theorem k212_104 : decode (mB 212) 104 = .ok (.invokestatic 141, 3) ∧ tM (mO 212) 141 = none ∧ tS (mO 212) 141 = some 159 := by decide +kernel
theorem k212_107 : decode (mB 212) 107 = .ok (.iconst 0, 1) := by decide +kernel
theorem k212_108 : decode (mB 212) 108 = .ok (.istore 8, 2) := by decide +kernel
theorem k212_110 : decode (mB 212) 110 = .ok (.iload 8, 2) := by decide +kernel
theorem k212_112 : decode (mB 212) 112 = .ok (.aload_n 0, 1) := by decide +kernel
theorem k212_113 : decode (mB 212) 113 = .ok (.getfield 25, 3) ∧ tF (mO 212) 25 = some (11, 13, 1, 1) := by decide +kernel
theorem k212_116 : decode (mB 212) 116 = .ok (.iconst 1, 1) := by decide +kernel
theorem k212_117 : decode (mB 212) 117 = .ok (.iaload, 1) := by decide +kernel
theorem k212_118 : decode (mB 212) 118 = .ok (.if_icmp .ge 72, 3) := by decide +kernel
theorem k212_121 : decode (mB 212) 121 = .ok (.iload 7, 2) := by decide +kernel
theorem k212_123 : decode (mB 212) 123 = .ok (.iload 6, 2) := by decide +kernel
theorem k212_125 : decode (mB 212) 125 = .ok (.iload 8, 2) := by decide +kernel
theorem k212_127 : decode (mB 212) 127 = .ok (.invokestatic 198, 3) ∧ tM (mO 212) 198 = none ∧ tS (mO 212) 198 = some 156 := by decide +kernel
theorem k212_130 : decode (mB 212) 130 = .ok (.ifCond .eq 7, 3) := by decide +kernel
theorem k212_133 : decode (mB 212) 133 = .ok (.iload_n 2, 1) := by decide +kernel
theorem k212_134 : decode (mB 212) 134 = .ok (.goto 7, 3) := by decide +kernel
theorem k212_137 : decode (mB 212) 137 = .ok (.bipush 10, 2) := by decide +kernel
theorem k212_139 : decode (mB 212) 139 = .ok (.iload_n 2, 1) := by decide +kernel
theorem k212_140 : decode (mB 212) 140 = .ok (.isub, 1) := by decide +kernel
theorem k212_141 : decode (mB 212) 141 = .ok (.imul, 1) := by decide +kernel
theorem k212_142 : decode (mB 212) 142 = .ok (.istore 7, 2) := by decide +kernel
theorem k212_144 : decode (mB 212) 144 = .ok (.aload_n 0, 1) := by decide +kernel
theorem k212_145 : decode (mB 212) 145 = .ok (.getfield 31, 3) ∧ tF (mO 212) 31 = some (11, 15, 1, 1) := by decide +kernel
theorem k212_148 : decode (mB 212) 148 = .ok (.iconst 3, 1) := by decide +kernel
theorem k212_149 : decode (mB 212) 149 = .ok (.iconst 5, 1) := by decide +kernel
theorem k212_150 : decode (mB 212) 150 = .ok (.iload 8, 2) := by decide +kernel
theorem k212_152 : decode (mB 212) 152 = .ok (.imul, 1) := by decide +kernel
theorem k212_153 : decode (mB 212) 153 = .ok (.iadd, 1) := by decide +kernel
theorem k212_154 : decode (mB 212) 154 = .ok (.iconst 2, 1) := by decide +kernel
theorem k212_155 : decode (mB 212) 155 = .ok (.iadd, 1) := by decide +kernel
theorem k212_156 : decode (mB 212) 156 = .ok (.iload 6, 2) := by decide +kernel
theorem k212_158 : decode (mB 212) 158 = .ok (.iload 8, 2) := by decide +kernel
theorem k212_160 : decode (mB 212) 160 = .ok (.invokestatic 198, 3) ∧ tM (mO 212) 198 = none ∧ tS (mO 212) 198 = some 156 := by decide +kernel
theorem k212_163 : decode (mB 212) 163 = .ok (.ifCond .eq 7, 3) := by decide +kernel
theorem k212_166 : decode (mB 212) 166 = .ok (.iconst 0, 1) := by decide +kernel
theorem k212_167 : decode (mB 212) 167 = .ok (.goto 16, 3) := by decide +kernel
theorem k212_170 : decode (mB 212) 170 = .ok (.aload_n 0, 1) := by decide +kernel
theorem k212_171 : decode (mB 212) 171 = .ok (.getfield 25, 3) ∧ tF (mO 212) 25 = some (11, 13, 1, 1) := by decide +kernel
theorem k212_174 : decode (mB 212) 174 = .ok (.iconst 3, 1) := by decide +kernel
theorem k212_175 : decode (mB 212) 175 = .ok (.iconst 5, 1) := by decide +kernel
theorem k212_176 : decode (mB 212) 176 = .ok (.iload 8, 2) := by decide +kernel
theorem k212_178 : decode (mB 212) 178 = .ok (.imul, 1) := by decide +kernel
theorem k212_179 : decode (mB 212) 179 = .ok (.iadd, 1) := by decide +kernel
theorem k212_180 : decode (mB 212) 180 = .ok (.iconst 2, 1) := by decide +kernel
theorem k212_181 : decode (mB 212) 181 = .ok (.iadd, 1) := by decide +kernel
theorem k212_182 : decode (mB 212) 182 = .ok (.iaload, 1) := by decide +kernel
theorem k212_183 : decode (mB 212) 183 = .ok (.iastore, 1) := by decide +kernel
theorem k212_184 : decode (mB 212) 184 = .ok (.iinc 8 1, 3) := by decide +kernel
theorem k212_187 : decode (mB 212) 187 = .ok (.goto (-77), 3) := by decide +kernel
theorem k212_190 : decode (mB 212) 190 = .ok (.aload_n 0, 1) := by decide +kernel
theorem k212_191 : decode (mB 212) 191 = .ok (.invokevirtual 201, 3) ∧ tVn (mO 212) 201 = some 0 ∧ tV (mO 212) 201 11 = some 211 := by decide +kernel
theorem k212_194 : decode (mB 212) 194 = .ok (.iload 4, 2) := by decide +kernel
theorem k212_196 : decode (mB 212) 196 = .ok (.aload_n 0, 1) := by decide +kernel
theorem k212_197 : decode (mB 212) 197 = .ok (.getfield 31, 3) ∧ tF (mO 212) 31 = some (11, 15, 1, 1) := by decide +kernel
theorem k212_200 : decode (mB 212) 200 = .ok (.invokestatic 181, 3) ∧ tM (mO 212) 181 = none ∧ tS (mO 212) 181 = some 189 := by decide +kernel
theorem k212_203 : decode (mB 212) 203 = .ok (.iload_n 1, 1) := by decide +kernel
theorem k212_204 : decode (mB 212) 204 = .ok (.if_icmp .lt 8, 3) := by decide +kernel
theorem k212_207 : decode (mB 212) 207 = .ok (.iload 7, 2) := by decide +kernel
theorem k212_209 : decode (mB 212) 209 = .ok (.goto 4, 3) := by decide +kernel
theorem k212_212 : decode (mB 212) 212 = .ok (.iconst 0, 1) := by decide +kernel
theorem k212_213 : decode (mB 212) 213 = .ok (.iadd, 1) := by decide +kernel
theorem k212_214 : decode (mB 212) 214 = .ok (.istore 4, 2) := by decide +kernel
theorem k212_216 : decode (mB 212) 216 = .ok (.iinc 6 1, 3) := by decide +kernel
theorem k212_219 : decode (mB 212) 219 = .ok (.goto (-141), 3) := by decide +kernel
theorem k212_222 : decode (mB 212) 222 = .ok (.iload 4, 2) := by decide +kernel
theorem k212_224 : decode (mB 212) 224 = .ok (.istore 6, 2) := by decide +kernel
theorem k212_226 : decode (mB 212) 226 = .ok (.iload 5, 2) := by decide +kernel
theorem k212_228 : decode (mB 212) 228 = .ok (.istore 7, 2) := by decide +kernel
theorem k212_230 : decode (mB 212) 230 = .ok (.iload 7, 2) := by decide +kernel
theorem k212_232 : decode (mB 212) 232 = .ok (.ifCond .eq 21, 3) := by decide +kernel
theorem k212_235 : decode (mB 212) 235 = .ok (.iload 6, 2) := by decide +kernel
theorem k212_237 : decode (mB 212) 237 = .ok (.iload 7, 2) := by decide +kernel
theorem k212_239 : decode (mB 212) 239 = .ok (.irem, 1) := by decide +kernel
theorem k212_240 : decode (mB 212) 240 = .ok (.istore 8, 2) := by decide +kernel
theorem k212_242 : decode (mB 212) 242 = .ok (.iload 7, 2) := by decide +kernel
theorem k212_244 : decode (mB 212) 244 = .ok (.istore 6, 2) := by decide +kernel
theorem k212_246 : decode (mB 212) 246 = .ok (.iload 8, 2) := by decide +kernel
theorem k212_248 : decode (mB 212) 248 = .ok (.istore 7, 2) := by decide +kernel
theorem k212_250 : decode (mB 212) 250 = .ok (.goto (-20), 3) := by decide +kernel
theorem k212_253 : decode (mB 212) 253 = .ok (.iload_n 3, 1) := by decide +kernel
theorem k212_254 : decode (mB 212) 254 = .ok (.ifCond .ne 8, 3) := by decide +kernel
theorem k212_257 : decode (mB 212) 257 = .ok (.iload 4, 2) := by decide +kernel
theorem k212_259 : decode (mB 212) 259 = .ok (.goto 5, 3) := by decide +kernel
theorem k212_262 : decode (mB 212) 262 = .ok (.iload 5, 2) := by decide +kernel
theorem k212_264 : decode (mB 212) 264 = .ok (.iload 6, 2) := by decide +kernel
theorem k212_266 : decode (mB 212) 266 = .ok (.idiv, 1) := by decide +kernel
theorem k212_267 : decode (mB 212) 267 = .ok (.ireturn, 1) ∧ mR 212 = (some .int) := by decide +kernel
-- 213: ChairPastModel.drawn:(III)I, locals 9
theorem l213 : mL 213 = 9 := by decide +kernel
theorem k213_0 : decode (mB 213) 0 = .ok (.aload_n 0, 1) := by decide +kernel
theorem k213_1 : decode (mB 213) 1 = .ok (.invokevirtual 185, 3) ∧ tVn (mO 213) 185 = some 0 ∧ tV (mO 213) 185 11 = some 181 := by decide +kernel
theorem k213_4 : decode (mB 213) 4 = .ok (.ifCond .ne 6, 3) := by decide +kernel
theorem k213_7 : decode (mB 213) 7 = .ok (.ldc 173, 2) ∧ tK (mO 213) 173 = some (-1000002) := by decide +kernel
theorem k213_9 : decode (mB 213) 9 = .ok (.ireturn, 1) ∧ mR 213 = (some .int) := by decide +kernel
theorem k213_10 : decode (mB 213) 10 = .ok (.iload_n 1, 1) := by decide +kernel
theorem k213_11 : decode (mB 213) 11 = .ok (.iconst 0, 1) := by decide +kernel
theorem k213_12 : decode (mB 213) 12 = .ok (.bipush 60, 2) := by decide +kernel
theorem k213_14 : decode (mB 213) 14 = .ok (.invokestatic 59, 3) ∧ tM (mO 213) 59 = none ∧ tS (mO 213) 59 = some 155 := by decide +kernel
theorem k213_17 : decode (mB 213) 17 = .ok (.ifCond .eq 22, 3) := by decide +kernel
theorem k213_20 : decode (mB 213) 20 = .ok (.iload_n 2, 1) := by decide +kernel
theorem k213_21 : decode (mB 213) 21 = .ok (.iconst 1, 1) := by decide +kernel
theorem k213_22 : decode (mB 213) 22 = .ok (.ldc 204, 2) ∧ tK (mO 213) 204 = some (999999) := by decide +kernel
theorem k213_24 : decode (mB 213) 24 = .ok (.invokestatic 59, 3) ∧ tM (mO 213) 59 = none ∧ tS (mO 213) 59 = some 155 := by decide +kernel
theorem k213_27 : decode (mB 213) 27 = .ok (.ifCond .eq 12, 3) := by decide +kernel
theorem k213_30 : decode (mB 213) 30 = .ok (.iload_n 3, 1) := by decide +kernel
theorem k213_31 : decode (mB 213) 31 = .ok (.iconst 0, 1) := by decide +kernel
theorem k213_32 : decode (mB 213) 32 = .ok (.iconst 1, 1) := by decide +kernel
theorem k213_33 : decode (mB 213) 33 = .ok (.invokestatic 59, 3) ∧ tM (mO 213) 59 = none ∧ tS (mO 213) 59 = some 155 := by decide +kernel
theorem k213_36 : decode (mB 213) 36 = .ok (.ifCond .ne 6, 3) := by decide +kernel
theorem k213_39 : decode (mB 213) 39 = .ok (.ldc 67, 2) ∧ tK (mO 213) 67 = some (-1000001) := by decide +kernel
theorem k213_41 : decode (mB 213) 41 = .ok (.ireturn, 1) ∧ mR 213 = (some .int) := by decide +kernel
theorem k213_42 : decode (mB 213) 42 = .ok (.aload_n 0, 1) := by decide +kernel
theorem k213_43 : decode (mB 213) 43 = .ok (.getfield 25, 3) ∧ tF (mO 213) 25 = some (11, 13, 1, 1) := by decide +kernel
theorem k213_46 : decode (mB 213) 46 = .ok (.iconst 0, 1) := by decide +kernel
theorem k213_47 : decode (mB 213) 47 = .ok (.aload_n 0, 1) := by decide +kernel
theorem k213_48 : decode (mB 213) 48 = .ok (.getfield 31, 3) ∧ tF (mO 213) 31 = some (11, 15, 1, 1) := by decide +kernel
theorem k213_51 : decode (mB 213) 51 = .ok (.iconst 0, 1) := by decide +kernel
theorem k213_52 : decode (mB 213) 52 = .ok (.invokestatic 141, 3) ∧ tM (mO 213) 141 = none ∧ tS (mO 213) 141 = some 159 := by decide +kernel
theorem k213_55 : decode (mB 213) 55 = .ok (.iload_n 2, 1) := by decide +kernel
theorem k213_56 : decode (mB 213) 56 = .ok (.i2l, 1) := by decide +kernel
theorem k213_57 : decode (mB 213) 57 = .ok (.lstore 4, 2) := by decide +kernel
theorem k213_59 : decode (mB 213) 59 = .ok (.iconst 0, 1) := by decide +kernel
theorem k213_60 : decode (mB 213) 60 = .ok (.istore 6, 2) := by decide +kernel
theorem k213_62 : decode (mB 213) 62 = .ok (.iconst 0, 1) := by decide +kernel
theorem k213_63 : decode (mB 213) 63 = .ok (.istore 7, 2) := by decide +kernel
theorem k213_65 : decode (mB 213) 65 = .ok (.iload 7, 2) := by decide +kernel
theorem k213_67 : decode (mB 213) 67 = .ok (.iload_n 1, 1) := by decide +kernel
theorem k213_68 : decode (mB 213) 68 = .ok (.if_icmp .ge 64, 3) := by decide +kernel
theorem k213_71 : decode (mB 213) 71 = .ok (.aload_n 0, 1) := by decide +kernel
theorem k213_72 : decode (mB 213) 72 = .ok (.getfield 25, 3) ∧ tF (mO 213) 25 = some (11, 13, 1, 1) := by decide +kernel
theorem k213_75 : decode (mB 213) 75 = .ok (.iconst 2, 1) := by decide +kernel
theorem k213_76 : decode (mB 213) 76 = .ok (.iaload, 1) := by decide +kernel
theorem k213_77 : decode (mB 213) 77 = .ok (.ifCond .le 55, 3) := by decide +kernel
theorem k213_80 : decode (mB 213) 80 = .ok (.lload 4, 2) := by decide +kernel
theorem k213_82 : decode (mB 213) 82 = .ok (.ldc2_w 205, 3) ∧ tKK (mO 213) 205 = some (16807) := by decide +kernel
theorem k213_85 : decode (mB 213) 85 = .ok (.lmul, 1) := by decide +kernel
theorem k213_86 : decode (mB 213) 86 = .ok (.ldc2_w 207, 3) ∧ tKK (mO 213) 207 = some (2147483647) := by decide +kernel
theorem k213_89 : decode (mB 213) 89 = .ok (.lrem, 1) := by decide +kernel
theorem k213_90 : decode (mB 213) 90 = .ok (.lstore 4, 2) := by decide +kernel
theorem k213_92 : decode (mB 213) 92 = .ok (.iload 6, 2) := by decide +kernel
theorem k213_94 : decode (mB 213) 94 = .ok (.aload_n 0, 1) := by decide +kernel
theorem k213_95 : decode (mB 213) 95 = .ok (.getfield 31, 3) ∧ tF (mO 213) 31 = some (11, 15, 1, 1) := by decide +kernel
theorem k213_98 : decode (mB 213) 98 = .ok (.lload 4, 2) := by decide +kernel
theorem k213_100 : decode (mB 213) 100 = .ok (.aload_n 0, 1) := by decide +kernel
theorem k213_101 : decode (mB 213) 101 = .ok (.getfield 25, 3) ∧ tF (mO 213) 25 = some (11, 13, 1, 1) := by decide +kernel
theorem k213_104 : decode (mB 213) 104 = .ok (.iconst 2, 1) := by decide +kernel
theorem k213_105 : decode (mB 213) 105 = .ok (.iaload, 1) := by decide +kernel
theorem k213_106 : decode (mB 213) 106 = .ok (.i2l, 1) := by decide +kernel
theorem k213_107 : decode (mB 213) 107 = .ok (.lrem, 1) := by decide +kernel
theorem k213_108 : decode (mB 213) 108 = .ok (.l2i, 1) := by decide +kernel
theorem k213_109 : decode (mB 213) 109 = .ok (.lload 4, 2) := by decide +kernel
theorem k213_111 : decode (mB 213) 111 = .ok (.aload_n 0, 1) := by decide +kernel
theorem k213_112 : decode (mB 213) 112 = .ok (.getfield 25, 3) ∧ tF (mO 213) 25 = some (11, 13, 1, 1) := by decide +kernel
theorem k213_115 : decode (mB 213) 115 = .ok (.iconst 1, 1) := by decide +kernel
theorem k213_116 : decode (mB 213) 116 = .ok (.iaload, 1) := by decide +kernel
theorem k213_117 : decode (mB 213) 117 = .ok (.i2l, 1) := by decide +kernel
theorem k213_118 : decode (mB 213) 118 = .ok (.lrem, 1) := by decide +kernel
theorem k213_119 : decode (mB 213) 119 = .ok (.l2i, 1) := by decide +kernel
theorem k213_120 : decode (mB 213) 120 = .ok (.invokestatic 156, 3) ∧ tM (mO 213) 156 = none ∧ tS (mO 213) 156 = some 186 := by decide +kernel
theorem k213_123 : decode (mB 213) 123 = .ok (.iadd, 1) := by decide +kernel
theorem k213_124 : decode (mB 213) 124 = .ok (.istore 6, 2) := by decide +kernel
theorem k213_126 : decode (mB 213) 126 = .ok (.iinc 7 1, 3) := by decide +kernel
theorem k213_129 : decode (mB 213) 129 = .ok (.goto (-64), 3) := by decide +kernel
theorem k213_132 : decode (mB 213) 132 = .ok (.iconst 0, 1) := by decide +kernel
theorem k213_133 : decode (mB 213) 133 = .ok (.istore 7, 2) := by decide +kernel
theorem k213_135 : decode (mB 213) 135 = .ok (.iconst 0, 1) := by decide +kernel
theorem k213_136 : decode (mB 213) 136 = .ok (.istore 8, 2) := by decide +kernel
theorem k213_138 : decode (mB 213) 138 = .ok (.iload 8, 2) := by decide +kernel
theorem k213_140 : decode (mB 213) 140 = .ok (.aload_n 0, 1) := by decide +kernel
theorem k213_141 : decode (mB 213) 141 = .ok (.getfield 25, 3) ∧ tF (mO 213) 25 = some (11, 13, 1, 1) := by decide +kernel
theorem k213_144 : decode (mB 213) 144 = .ok (.iconst 1, 1) := by decide +kernel
theorem k213_145 : decode (mB 213) 145 = .ok (.iaload, 1) := by decide +kernel
theorem k213_146 : decode (mB 213) 146 = .ok (.if_icmp .ge 27, 3) := by decide +kernel
theorem k213_149 : decode (mB 213) 149 = .ok (.iload 7, 2) := by decide +kernel
theorem k213_151 : decode (mB 213) 151 = .ok (.aload_n 0, 1) := by decide +kernel
theorem k213_152 : decode (mB 213) 152 = .ok (.getfield 31, 3) ∧ tF (mO 213) 31 = some (11, 15, 1, 1) := by decide +kernel
theorem k213_155 : decode (mB 213) 155 = .ok (.iconst 3, 1) := by decide +kernel
theorem k213_156 : decode (mB 213) 156 = .ok (.iconst 5, 1) := by decide +kernel
theorem k213_157 : decode (mB 213) 157 = .ok (.iload 8, 2) := by decide +kernel
theorem k213_159 : decode (mB 213) 159 = .ok (.imul, 1) := by decide +kernel
theorem k213_160 : decode (mB 213) 160 = .ok (.iadd, 1) := by decide +kernel
theorem k213_161 : decode (mB 213) 161 = .ok (.iconst 1, 1) := by decide +kernel
theorem k213_162 : decode (mB 213) 162 = .ok (.iadd, 1) := by decide +kernel
theorem k213_163 : decode (mB 213) 163 = .ok (.iaload, 1) := by decide +kernel
theorem k213_164 : decode (mB 213) 164 = .ok (.iadd, 1) := by decide +kernel
theorem k213_165 : decode (mB 213) 165 = .ok (.istore 7, 2) := by decide +kernel
theorem k213_167 : decode (mB 213) 167 = .ok (.iinc 8 1, 3) := by decide +kernel
theorem k213_170 : decode (mB 213) 170 = .ok (.goto (-32), 3) := by decide +kernel
theorem k213_173 : decode (mB 213) 173 = .ok (.iload_n 3, 1) := by decide +kernel
theorem k213_174 : decode (mB 213) 174 = .ok (.ifCond .ne 8, 3) := by decide +kernel
theorem k213_177 : decode (mB 213) 177 = .ok (.iload 6, 2) := by decide +kernel
theorem k213_179 : decode (mB 213) 179 = .ok (.goto 5, 3) := by decide +kernel
theorem k213_182 : decode (mB 213) 182 = .ok (.iload 7, 2) := by decide +kernel
theorem k213_184 : decode (mB 213) 184 = .ok (.ireturn, 1) ∧ mR 213 = (some .int) := by decide +kernel
-- 214: ChairPastModel.image:(I)I, locals 2
theorem l214 : mL 214 = 2 := by decide +kernel
theorem k214_0 : decode (mB 214) 0 = .ok (.iload_n 1, 1) := by decide +kernel
theorem k214_1 : decode (mB 214) 1 = .ok (.iconst 0, 1) := by decide +kernel
theorem k214_2 : decode (mB 214) 2 = .ok (.iconst 1, 1) := by decide +kernel
theorem k214_3 : decode (mB 214) 3 = .ok (.invokestatic 59, 3) ∧ tM (mO 214) 59 = none ∧ tS (mO 214) 59 = some 155 := by decide +kernel
theorem k214_6 : decode (mB 214) 6 = .ok (.ifCond .ne 6, 3) := by decide +kernel
theorem k214_9 : decode (mB 214) 9 = .ok (.ldc 67, 2) ∧ tK (mO 214) 67 = some (-1000001) := by decide +kernel
theorem k214_11 : decode (mB 214) 11 = .ok (.ireturn, 1) ∧ mR 214 = (some .int) := by decide +kernel
theorem k214_12 : decode (mB 214) 12 = .ok (.aload_n 0, 1) := by decide +kernel
theorem k214_13 : decode (mB 214) 13 = .ok (.invokevirtual 185, 3) ∧ tVn (mO 214) 185 = some 0 ∧ tV (mO 214) 185 11 = some 181 := by decide +kernel
theorem k214_16 : decode (mB 214) 16 = .ok (.ifCond .ne 6, 3) := by decide +kernel
theorem k214_19 : decode (mB 214) 19 = .ok (.ldc 173, 2) ∧ tK (mO 214) 173 = some (-1000002) := by decide +kernel
theorem k214_21 : decode (mB 214) 21 = .ok (.ireturn, 1) ∧ mR 214 = (some .int) := by decide +kernel
theorem k214_22 : decode (mB 214) 22 = .ok (.aload_n 0, 1) := by decide +kernel
theorem k214_23 : decode (mB 214) 23 = .ok (.getfield 25, 3) ∧ tF (mO 214) 25 = some (11, 13, 1, 1) := by decide +kernel
theorem k214_26 : decode (mB 214) 26 = .ok (.iconst 0, 1) := by decide +kernel
theorem k214_27 : decode (mB 214) 27 = .ok (.aload_n 0, 1) := by decide +kernel
theorem k214_28 : decode (mB 214) 28 = .ok (.getfield 37, 3) ∧ tF (mO 214) 37 = some (11, 18, 1, 1) := by decide +kernel
theorem k214_31 : decode (mB 214) 31 = .ok (.bipush 48, 2) := by decide +kernel
theorem k214_33 : decode (mB 214) 33 = .ok (.iload_n 1, 1) := by decide +kernel
theorem k214_34 : decode (mB 214) 34 = .ok (.imul, 1) := by decide +kernel
theorem k214_35 : decode (mB 214) 35 = .ok (.invokestatic 141, 3) ∧ tM (mO 214) 141 = none ∧ tS (mO 214) 141 = some 159 := by decide +kernel
theorem k214_38 : decode (mB 214) 38 = .ok (.aload_n 0, 1) := by decide +kernel
theorem k214_39 : decode (mB 214) 39 = .ok (.getfield 40, 3) ∧ tF (mO 214) 40 = some (11, 19, 1, 1) := by decide +kernel
theorem k214_42 : decode (mB 214) 42 = .ok (.iload_n 1, 1) := by decide +kernel
theorem k214_43 : decode (mB 214) 43 = .ok (.iconst 1, 1) := by decide +kernel
theorem k214_44 : decode (mB 214) 44 = .ok (.bastore, 1) := by decide +kernel
theorem k214_45 : decode (mB 214) 45 = .ok (.iconst 1, 1) := by decide +kernel
theorem k214_46 : decode (mB 214) 46 = .ok (.ireturn, 1) ∧ mR 214 = (some .int) := by decide +kernel
-- 215: ChairPastModel.restore:(I)I, locals 2
theorem l215 : mL 215 = 2 := by decide +kernel
theorem k215_0 : decode (mB 215) 0 = .ok (.iload_n 1, 1) := by decide +kernel
theorem k215_1 : decode (mB 215) 1 = .ok (.iconst 0, 1) := by decide +kernel
theorem k215_2 : decode (mB 215) 2 = .ok (.iconst 1, 1) := by decide +kernel
theorem k215_3 : decode (mB 215) 3 = .ok (.invokestatic 59, 3) ∧ tM (mO 215) 59 = none ∧ tS (mO 215) 59 = some 155 := by decide +kernel
theorem k215_6 : decode (mB 215) 6 = .ok (.ifCond .ne 6, 3) := by decide +kernel
theorem k215_9 : decode (mB 215) 9 = .ok (.ldc 67, 2) ∧ tK (mO 215) 67 = some (-1000001) := by decide +kernel
theorem k215_11 : decode (mB 215) 11 = .ok (.ireturn, 1) ∧ mR 215 = (some .int) := by decide +kernel
theorem k215_12 : decode (mB 215) 12 = .ok (.aload_n 0, 1) := by decide +kernel
theorem k215_13 : decode (mB 215) 13 = .ok (.getfield 40, 3) ∧ tF (mO 215) 40 = some (11, 19, 1, 1) := by decide +kernel
theorem k215_16 : decode (mB 215) 16 = .ok (.iload_n 1, 1) := by decide +kernel
theorem k215_17 : decode (mB 215) 17 = .ok (.baload, 1) := by decide +kernel
theorem k215_18 : decode (mB 215) 18 = .ok (.ifCond .ne 6, 3) := by decide +kernel
theorem k215_21 : decode (mB 215) 21 = .ok (.ldc 173, 2) ∧ tK (mO 215) 173 = some (-1000002) := by decide +kernel
theorem k215_23 : decode (mB 215) 23 = .ok (.ireturn, 1) ∧ mR 215 = (some .int) := by decide +kernel
theorem k215_24 : decode (mB 215) 24 = .ok (.aload_n 0, 1) := by decide +kernel
theorem k215_25 : decode (mB 215) 25 = .ok (.getfield 37, 3) ∧ tF (mO 215) 37 = some (11, 18, 1, 1) := by decide +kernel
theorem k215_28 : decode (mB 215) 28 = .ok (.bipush 48, 2) := by decide +kernel
theorem k215_30 : decode (mB 215) 30 = .ok (.iload_n 1, 1) := by decide +kernel
theorem k215_31 : decode (mB 215) 31 = .ok (.imul, 1) := by decide +kernel
theorem k215_32 : decode (mB 215) 32 = .ok (.aload_n 0, 1) := by decide +kernel
theorem k215_33 : decode (mB 215) 33 = .ok (.getfield 25, 3) ∧ tF (mO 215) 25 = some (11, 13, 1, 1) := by decide +kernel
theorem k215_36 : decode (mB 215) 36 = .ok (.iconst 0, 1) := by decide +kernel
theorem k215_37 : decode (mB 215) 37 = .ok (.invokestatic 141, 3) ∧ tM (mO 215) 141 = none ∧ tS (mO 215) 141 = some 159 := by decide +kernel
theorem k215_40 : decode (mB 215) 40 = .ok (.aload_n 0, 1) := by decide +kernel
theorem k215_41 : decode (mB 215) 41 = .ok (.iconst 0, 1) := by decide +kernel
theorem k215_42 : decode (mB 215) 42 = .ok (.putfield 145, 3) ∧ tF (mO 215) 145 = some (11, 17, 0, 0) := by decide +kernel
theorem k215_45 : decode (mB 215) 45 = .ok (.iconst 1, 1) := by decide +kernel
theorem k215_46 : decode (mB 215) 46 = .ok (.ireturn, 1) ∧ mR 215 = (some .int) := by decide +kernel
-- 216: ChairPastModel.kindIn:(I)I, locals 2
theorem l216 : mL 216 = 2 := by decide +kernel
theorem k216_0 : decode (mB 216) 0 = .ok (.aload_n 0, 1) := by decide +kernel
theorem k216_1 : decode (mB 216) 1 = .ok (.getfield 25, 3) ∧ tF (mO 216) 25 = some (11, 13, 1, 1) := by decide +kernel
theorem k216_4 : decode (mB 216) 4 = .ok (.iconst 3, 1) := by decide +kernel
theorem k216_5 : decode (mB 216) 5 = .ok (.iconst 5, 1) := by decide +kernel
theorem k216_6 : decode (mB 216) 6 = .ok (.iload_n 1, 1) := by decide +kernel
theorem k216_7 : decode (mB 216) 7 = .ok (.imul, 1) := by decide +kernel
theorem k216_8 : decode (mB 216) 8 = .ok (.iadd, 1) := by decide +kernel
theorem k216_9 : decode (mB 216) 9 = .ok (.iaload, 1) := by decide +kernel
theorem k216_10 : decode (mB 216) 10 = .ok (.ireturn, 1) ∧ mR 216 = (some .int) := by decide +kernel
-- 217: ChairPastModel.kind:(I)I, locals 2
theorem l217 : mL 217 = 2 := by decide +kernel
theorem k217_0 : decode (mB 217) 0 = .ok (.aload_n 0, 1) := by decide +kernel
theorem k217_1 : decode (mB 217) 1 = .ok (.iload_n 1, 1) := by decide +kernel
theorem k217_2 : decode (mB 217) 2 = .ok (.invokevirtual 170, 3) ∧ tVn (mO 217) 170 = some 1 ∧ tV (mO 217) 170 11 = some 182 := by decide +kernel
theorem k217_5 : decode (mB 217) 5 = .ok (.ifCond .eq 11, 3) := by decide +kernel
theorem k217_8 : decode (mB 217) 8 = .ok (.aload_n 0, 1) := by decide +kernel
theorem k217_9 : decode (mB 217) 9 = .ok (.iload_n 1, 1) := by decide +kernel
theorem k217_10 : decode (mB 217) 10 = .ok (.invokevirtual 209, 3) ∧ tVn (mO 217) 209 = some 1 ∧ tV (mO 217) 209 11 = some 216 := by decide +kernel
theorem k217_13 : decode (mB 217) 13 = .ok (.goto 5, 3) := by decide +kernel
theorem k217_16 : decode (mB 217) 16 = .ok (.ldc 67, 2) ∧ tK (mO 217) 67 = some (-1000001) := by decide +kernel
theorem k217_18 : decode (mB 217) 18 = .ok (.ireturn, 1) ∧ mR 217 = (some .int) := by decide +kernel
-- 218: ChairPastModel.as:(II)I, locals 5
theorem l218 : mL 218 = 5 := by decide +kernel
theorem k218_0 : decode (mB 218) 0 = .ok (.aload_n 0, 1) := by decide +kernel
theorem k218_1 : decode (mB 218) 1 = .ok (.iload_n 1, 1) := by decide +kernel
theorem k218_2 : decode (mB 218) 2 = .ok (.invokevirtual 170, 3) ∧ tVn (mO 218) 170 = some 1 ∧ tV (mO 218) 170 11 = some 182 := by decide +kernel
theorem k218_5 : decode (mB 218) 5 = .ok (.ifCond .eq 12, 3) := by decide +kernel
theorem k218_8 : decode (mB 218) 8 = .ok (.iload_n 2, 1) := by decide +kernel
theorem k218_9 : decode (mB 218) 9 = .ok (.iconst 0, 1) := by decide +kernel
theorem k218_10 : decode (mB 218) 10 = .ok (.iconst 5, 1) := by decide +kernel
theorem k218_11 : decode (mB 218) 11 = .ok (.invokestatic 59, 3) ∧ tM (mO 218) 59 = none ∧ tS (mO 218) 59 = some 155 := by decide +kernel
theorem k218_14 : decode (mB 218) 14 = .ok (.ifCond .ne 6, 3) := by decide +kernel
theorem k218_17 : decode (mB 218) 17 = .ok (.ldc 67, 2) ∧ tK (mO 218) 67 = some (-1000001) := by decide +kernel
theorem k218_19 : decode (mB 218) 19 = .ok (.ireturn, 1) ∧ mR 218 = (some .int) := by decide +kernel
theorem k218_20 : decode (mB 218) 20 = .ok (.aload_n 0, 1) := by decide +kernel
theorem k218_21 : decode (mB 218) 21 = .ok (.iload_n 1, 1) := by decide +kernel
theorem k218_22 : decode (mB 218) 22 = .ok (.invokevirtual 209, 3) ∧ tVn (mO 218) 209 = some 1 ∧ tV (mO 218) 209 11 = some 216 := by decide +kernel
theorem k218_25 : decode (mB 218) 25 = .ok (.istore_n 3, 1) := by decide +kernel
theorem k218_26 : decode (mB 218) 26 = .ok (.iload_n 2, 1) := by decide +kernel
theorem k218_27 : decode (mB 218) 27 = .ok (.ifCond .eq 28, 3) := by decide +kernel
theorem k218_30 : decode (mB 218) 30 = .ok (.iload_n 2, 1) := by decide +kernel
theorem k218_31 : decode (mB 218) 31 = .ok (.iload_n 3, 1) := by decide +kernel
theorem k218_32 : decode (mB 218) 32 = .ok (.if_icmp .eq 23, 3) := by decide +kernel
theorem k218_35 : decode (mB 218) 35 = .ok (.iload_n 2, 1) := by decide +kernel
theorem k218_36 : decode (mB 218) 36 = .ok (.iconst 1, 1) := by decide +kernel
theorem k218_37 : decode (mB 218) 37 = .ok (.if_icmp .ne 8, 3) := by decide +kernel
theorem k218_40 : decode (mB 218) 40 = .ok (.iload_n 3, 1) := by decide +kernel
theorem k218_41 : decode (mB 218) 41 = .ok (.iconst 4, 1) := by decide +kernel
theorem k218_42 : decode (mB 218) 42 = .ok (.if_icmp .lt 13, 3) := by decide +kernel
theorem k218_45 : decode (mB 218) 45 = .ok (.iload_n 2, 1) := by decide +kernel
theorem k218_46 : decode (mB 218) 46 = .ok (.iconst 4, 1) := by decide +kernel
theorem k218_47 : decode (mB 218) 47 = .ok (.if_icmp .ne 12, 3) := by decide +kernel
theorem k218_50 : decode (mB 218) 50 = .ok (.iload_n 3, 1) := by decide +kernel
theorem k218_51 : decode (mB 218) 51 = .ok (.iconst 5, 1) := by decide +kernel
theorem k218_52 : decode (mB 218) 52 = .ok (.if_icmp .ne 7, 3) := by decide +kernel
theorem k218_55 : decode (mB 218) 55 = .ok (.iconst 1, 1) := by decide +kernel
theorem k218_56 : decode (mB 218) 56 = .ok (.goto 4, 3) := by decide +kernel
theorem k218_59 : decode (mB 218) 59 = .ok (.iconst 0, 1) := by decide +kernel
theorem k218_60 : decode (mB 218) 60 = .ok (.istore 4, 2) := by decide +kernel
theorem k218_62 : decode (mB 218) 62 = .ok (.iload 4, 2) := by decide +kernel
theorem k218_64 : decode (mB 218) 64 = .ok (.ifCond .eq 11, 3) := by decide +kernel
theorem k218_67 : decode (mB 218) 67 = .ok (.aload_n 0, 1) := by decide +kernel
theorem k218_68 : decode (mB 218) 68 = .ok (.iload_n 1, 1) := by decide +kernel
theorem k218_69 : decode (mB 218) 69 = .ok (.invokevirtual 72, 3) ∧ tVn (mO 218) 72 = some 1 ∧ tV (mO 218) 72 11 = some 158 := by decide +kernel
theorem k218_72 : decode (mB 218) 72 = .ok (.goto 8, 3) := by decide +kernel
theorem k218_75 : decode (mB 218) 75 = .ok (.aload_n 0, 1) := by decide +kernel
theorem k218_76 : decode (mB 218) 76 = .ok (.iconst 3, 1) := by decide +kernel
theorem k218_77 : decode (mB 218) 77 = .ok (.invokevirtual 68, 3) ∧ tVn (mO 218) 68 = some 1 ∧ tV (mO 218) 68 11 = some 157 := by decide +kernel
theorem k218_80 : decode (mB 218) 80 = .ok (.ireturn, 1) ∧ mR 218 = (some .int) := by decide +kernel
-- 219: ChairPastModel.begins:(I)V, locals 2
theorem l219 : mL 219 = 2 := by decide +kernel
theorem k219_0 : decode (mB 219) 0 = .ok (.aload_n 0, 1) := by decide +kernel
theorem k219_1 : decode (mB 219) 1 = .ok (.getfield 212, 3) ∧ tF (mO 219) 212 = some (11, 23, 0, 0) := by decide +kernel
theorem k219_4 : decode (mB 219) 4 = .ok (.bipush 16, 2) := by decide +kernel
theorem k219_6 : decode (mB 219) 6 = .ok (.if_icmp .ge 23, 3) := by decide +kernel
theorem k219_9 : decode (mB 219) 9 = .ok (.aload_n 0, 1) := by decide +kernel
theorem k219_10 : decode (mB 219) 10 = .ok (.getfield 50, 3) ∧ tF (mO 219) 50 = some (11, 22, 1, 1) := by decide +kernel
theorem k219_13 : decode (mB 219) 13 = .ok (.aload_n 0, 1) := by decide +kernel
theorem k219_14 : decode (mB 219) 14 = .ok (.getfield 212, 3) ∧ tF (mO 219) 212 = some (11, 23, 0, 0) := by decide +kernel
theorem k219_17 : decode (mB 219) 17 = .ok (.iload_n 1, 1) := by decide +kernel
theorem k219_18 : decode (mB 219) 18 = .ok (.iastore, 1) := by decide +kernel
theorem k219_19 : decode (mB 219) 19 = .ok (.aload_n 0, 1) := by decide +kernel
theorem k219_20 : decode (mB 219) 20 = .ok (.dup, 1) := by decide +kernel
theorem k219_21 : decode (mB 219) 21 = .ok (.getfield 212, 3) ∧ tF (mO 219) 212 = some (11, 23, 0, 0) := by decide +kernel
theorem k219_24 : decode (mB 219) 24 = .ok (.iconst 1, 1) := by decide +kernel
theorem k219_25 : decode (mB 219) 25 = .ok (.iadd, 1) := by decide +kernel
theorem k219_26 : decode (mB 219) 26 = .ok (.putfield 212, 3) ∧ tF (mO 219) 212 = some (11, 23, 0, 0) := by decide +kernel
theorem k219_29 : decode (mB 219) 29 = .ok (.return_, 1) ∧ mR 219 = none := by decide +kernel
-- 220: ChairPastModel.plainMark:(I)I, locals 4
theorem l220 : mL 220 = 4 := by decide +kernel
theorem k220_0 : decode (mB 220) 0 = .ok (.aload_n 0, 1) := by decide +kernel
theorem k220_1 : decode (mB 220) 1 = .ok (.iload_n 1, 1) := by decide +kernel
theorem k220_2 : decode (mB 220) 2 = .ok (.invokevirtual 209, 3) ∧ tVn (mO 220) 209 = some 1 ∧ tV (mO 220) 209 11 = some 216 := by decide +kernel
theorem k220_5 : decode (mB 220) 5 = .ok (.istore_n 2, 1) := by decide +kernel
theorem k220_6 : decode (mB 220) 6 = .ok (.iload_n 2, 1) := by decide +kernel
theorem k220_7 : decode (mB 220) 7 = .ok (.iconst 1, 1) := by decide +kernel
theorem k220_8 : decode (mB 220) 8 = .ok (.if_icmp .eq 19, 3) := by decide +kernel
theorem k220_11 : decode (mB 220) 11 = .ok (.aload_n 0, 1) := by decide +kernel
theorem k220_12 : decode (mB 220) 12 = .ok (.iload_n 2, 1) := by decide +kernel
theorem k220_13 : decode (mB 220) 13 = .ok (.iconst 2, 1) := by decide +kernel
theorem k220_14 : decode (mB 220) 14 = .ok (.if_icmp .ne 8, 3) := by decide +kernel
theorem k220_17 : decode (mB 220) 17 = .ok (.bipush 24, 2) := by decide +kernel
theorem k220_19 : decode (mB 220) 19 = .ok (.goto 5, 3) := by decide +kernel
theorem k220_22 : decode (mB 220) 22 = .ok (.bipush 22, 2) := by decide +kernel
theorem k220_24 : decode (mB 220) 24 = .ok (.invokevirtual 215, 3) ∧ tVn (mO 220) 215 = some 1 ∧ tV (mO 220) 215 11 = some 219 := by decide +kernel
theorem k220_27 : decode (mB 220) 27 = .ok (.aload_n 0, 1) := by decide +kernel
theorem k220_28 : decode (mB 220) 28 = .ok (.bipush 21, 2) := by decide +kernel
theorem k220_30 : decode (mB 220) 30 = .ok (.invokevirtual 215, 3) ∧ tVn (mO 220) 215 = some 1 ∧ tV (mO 220) 215 11 = some 219 := by decide +kernel
theorem k220_33 : decode (mB 220) 33 = .ok (.aload_n 0, 1) := by decide +kernel
theorem k220_34 : decode (mB 220) 34 = .ok (.bipush 20, 2) := by decide +kernel
theorem k220_36 : decode (mB 220) 36 = .ok (.invokevirtual 215, 3) ∧ tVn (mO 220) 215 = some 1 ∧ tV (mO 220) 215 11 = some 219 := by decide +kernel
theorem k220_39 : decode (mB 220) 39 = .ok (.aload_n 0, 1) := by decide +kernel
theorem k220_40 : decode (mB 220) 40 = .ok (.getfield 25, 3) ∧ tF (mO 220) 25 = some (11, 13, 1, 1) := by decide +kernel
theorem k220_43 : decode (mB 220) 43 = .ok (.iconst 3, 1) := by decide +kernel
theorem k220_44 : decode (mB 220) 44 = .ok (.iconst 5, 1) := by decide +kernel
theorem k220_45 : decode (mB 220) 45 = .ok (.iload_n 1, 1) := by decide +kernel
theorem k220_46 : decode (mB 220) 46 = .ok (.imul, 1) := by decide +kernel
theorem k220_47 : decode (mB 220) 47 = .ok (.iadd, 1) := by decide +kernel
theorem k220_48 : decode (mB 220) 48 = .ok (.iconst 1, 1) := by decide +kernel
theorem k220_49 : decode (mB 220) 49 = .ok (.iadd, 1) := by decide +kernel
theorem k220_50 : decode (mB 220) 50 = .ok (.iaload, 1) := by decide +kernel
theorem k220_51 : decode (mB 220) 51 = .ok (.aload_n 0, 1) := by decide +kernel
theorem k220_52 : decode (mB 220) 52 = .ok (.getfield 25, 3) ∧ tF (mO 220) 25 = some (11, 13, 1, 1) := by decide +kernel
theorem k220_55 : decode (mB 220) 55 = .ok (.iconst 3, 1) := by decide +kernel
theorem k220_56 : decode (mB 220) 56 = .ok (.iconst 5, 1) := by decide +kernel
theorem k220_57 : decode (mB 220) 57 = .ok (.iload_n 1, 1) := by decide +kernel
theorem k220_58 : decode (mB 220) 58 = .ok (.imul, 1) := by decide +kernel
theorem k220_59 : decode (mB 220) 59 = .ok (.iadd, 1) := by decide +kernel
theorem k220_60 : decode (mB 220) 60 = .ok (.iconst 2, 1) := by decide +kernel
theorem k220_61 : decode (mB 220) 61 = .ok (.iadd, 1) := by decide +kernel
theorem k220_62 : decode (mB 220) 62 = .ok (.iaload, 1) := by decide +kernel
theorem k220_63 : decode (mB 220) 63 = .ok (.iadd, 1) := by decide +kernel
theorem k220_64 : decode (mB 220) 64 = .ok (.istore_n 3, 1) := by decide +kernel
theorem k220_65 : decode (mB 220) 65 = .ok (.iload_n 2, 1) := by decide +kernel
theorem k220_66 : decode (mB 220) 66 = .ok (.iconst 2, 1) := by decide +kernel
theorem k220_67 : decode (mB 220) 67 = .ok (.if_icmp .ne 9, 3) := by decide +kernel
theorem k220_70 : decode (mB 220) 70 = .ok (.iconst 2, 1) := by decide +kernel
theorem k220_71 : decode (mB 220) 71 = .ok (.iload_n 3, 1) := by decide +kernel
theorem k220_72 : decode (mB 220) 72 = .ok (.imul, 1) := by decide +kernel
theorem k220_73 : decode (mB 220) 73 = .ok (.goto 17, 3) := by decide +kernel
theorem k220_76 : decode (mB 220) 76 = .ok (.iload_n 2, 1) := by decide +kernel
theorem k220_77 : decode (mB 220) 77 = .ok (.iconst 3, 1) := by decide +kernel
theorem k220_78 : decode (mB 220) 78 = .ok (.if_icmp .ne 11, 3) := by decide +kernel
theorem k220_81 : decode (mB 220) 81 = .ok (.iload_n 3, 1) := by decide +kernel
theorem k220_82 : decode (mB 220) 82 = .ok (.sipush 1000, 3) := by decide +kernel
theorem k220_85 : decode (mB 220) 85 = .ok (.isub, 1) := by decide +kernel
theorem k220_86 : decode (mB 220) 86 = .ok (.goto 4, 3) := by decide +kernel
theorem k220_89 : decode (mB 220) 89 = .ok (.iload_n 3, 1) := by decide +kernel
theorem k220_90 : decode (mB 220) 90 = .ok (.ireturn, 1) ∧ mR 220 = (some .int) := by decide +kernel
-- 221: ChairPastModel.throneSize:(I)I, locals 4
theorem l221 : mL 221 = 4 := by decide +kernel
theorem k221_0 : decode (mB 221) 0 = .ok (.aload_n 0, 1) := by decide +kernel
theorem k221_1 : decode (mB 221) 1 = .ok (.iload_n 1, 1) := by decide +kernel
theorem k221_2 : decode (mB 221) 2 = .ok (.invokevirtual 209, 3) ∧ tVn (mO 221) 209 = some 1 ∧ tV (mO 221) 209 11 = some 216 := by decide +kernel
theorem k221_5 : decode (mB 221) 5 = .ok (.iconst 5, 1) := by decide +kernel
theorem k221_6 : decode (mB 221) 6 = .ok (.if_icmp .ne 7, 3) := by decide +kernel
theorem k221_9 : decode (mB 221) 9 = .ok (.iconst 1, 1) := by decide +kernel
theorem k221_10 : decode (mB 221) 10 = .ok (.goto 4, 3) := by decide +kernel
theorem k221_13 : decode (mB 221) 13 = .ok (.iconst 0, 1) := by decide +kernel
theorem k221_14 : decode (mB 221) 14 = .ok (.istore_n 2, 1) := by decide +kernel
theorem k221_15 : decode (mB 221) 15 = .ok (.iload_n 2, 1) := by decide +kernel
theorem k221_16 : decode (mB 221) 16 = .ok (.ifCond .eq 9, 3) := by decide +kernel
theorem k221_19 : decode (mB 221) 19 = .ok (.aload_n 0, 1) := by decide +kernel
theorem k221_20 : decode (mB 221) 20 = .ok (.bipush 14, 2) := by decide +kernel
theorem k221_22 : decode (mB 221) 22 = .ok (.invokevirtual 215, 3) ∧ tVn (mO 221) 215 = some 1 ∧ tV (mO 221) 215 11 = some 219 := by decide +kernel
theorem k221_25 : decode (mB 221) 25 = .ok (.aload_n 0, 1) := by decide +kernel
theorem k221_26 : decode (mB 221) 26 = .ok (.bipush 13, 2) := by decide +kernel
theorem k221_28 : decode (mB 221) 28 = .ok (.invokevirtual 215, 3) ∧ tVn (mO 221) 215 = some 1 ∧ tV (mO 221) 215 11 = some 219 := by decide +kernel
theorem k221_31 : decode (mB 221) 31 = .ok (.aload_n 0, 1) := by decide +kernel
theorem k221_32 : decode (mB 221) 32 = .ok (.bipush 10, 2) := by decide +kernel
theorem k221_34 : decode (mB 221) 34 = .ok (.invokevirtual 215, 3) ∧ tVn (mO 221) 215 = some 1 ∧ tV (mO 221) 215 11 = some 219 := by decide +kernel
theorem k221_37 : decode (mB 221) 37 = .ok (.aload_n 0, 1) := by decide +kernel
theorem k221_38 : decode (mB 221) 38 = .ok (.getfield 25, 3) ∧ tF (mO 221) 25 = some (11, 13, 1, 1) := by decide +kernel
theorem k221_41 : decode (mB 221) 41 = .ok (.iconst 3, 1) := by decide +kernel
theorem k221_42 : decode (mB 221) 42 = .ok (.iconst 5, 1) := by decide +kernel
theorem k221_43 : decode (mB 221) 43 = .ok (.iload_n 1, 1) := by decide +kernel
theorem k221_44 : decode (mB 221) 44 = .ok (.imul, 1) := by decide +kernel
theorem k221_45 : decode (mB 221) 45 = .ok (.iadd, 1) := by decide +kernel
theorem k221_46 : decode (mB 221) 46 = .ok (.iconst 3, 1) := by decide +kernel
theorem k221_47 : decode (mB 221) 47 = .ok (.iadd, 1) := by decide +kernel
theorem k221_48 : decode (mB 221) 48 = .ok (.iaload, 1) := by decide +kernel
theorem k221_49 : decode (mB 221) 49 = .ok (.bipush 100, 2) := by decide +kernel
theorem k221_51 : decode (mB 221) 51 = .ok (.isub, 1) := by decide +kernel
theorem k221_52 : decode (mB 221) 52 = .ok (.istore_n 3, 1) := by decide +kernel
theorem k221_53 : decode (mB 221) 53 = .ok (.iload_n 2, 1) := by decide +kernel
theorem k221_54 : decode (mB 221) 54 = .ok (.ifCond .eq 9, 3) := by decide +kernel
theorem k221_57 : decode (mB 221) 57 = .ok (.iconst 2, 1) := by decide +kernel
theorem k221_58 : decode (mB 221) 58 = .ok (.iload_n 3, 1) := by decide +kernel
theorem k221_59 : decode (mB 221) 59 = .ok (.imul, 1) := by decide +kernel
theorem k221_60 : decode (mB 221) 60 = .ok (.goto 4, 3) := by decide +kernel
theorem k221_63 : decode (mB 221) 63 = .ok (.iload_n 3, 1) := by decide +kernel
theorem k221_64 : decode (mB 221) 64 = .ok (.ireturn, 1) ∧ mR 221 = (some .int) := by decide +kernel
-- 222: ChairPastModel.plainSize:(I)I, locals 4
theorem l222 : mL 222 = 4 := by decide +kernel
theorem k222_0 : decode (mB 222) 0 = .ok (.aload_n 0, 1) := by decide +kernel
theorem k222_1 : decode (mB 222) 1 = .ok (.iload_n 1, 1) := by decide +kernel
theorem k222_2 : decode (mB 222) 2 = .ok (.invokevirtual 209, 3) ∧ tVn (mO 222) 209 = some 1 ∧ tV (mO 222) 209 11 = some 216 := by decide +kernel
theorem k222_5 : decode (mB 222) 5 = .ok (.iconst 2, 1) := by decide +kernel
theorem k222_6 : decode (mB 222) 6 = .ok (.if_icmp .ne 7, 3) := by decide +kernel
theorem k222_9 : decode (mB 222) 9 = .ok (.iconst 1, 1) := by decide +kernel
theorem k222_10 : decode (mB 222) 10 = .ok (.goto 4, 3) := by decide +kernel
theorem k222_13 : decode (mB 222) 13 = .ok (.iconst 0, 1) := by decide +kernel
theorem k222_14 : decode (mB 222) 14 = .ok (.istore_n 2, 1) := by decide +kernel
theorem k222_15 : decode (mB 222) 15 = .ok (.iload_n 2, 1) := by decide +kernel
theorem k222_16 : decode (mB 222) 16 = .ok (.ifCond .eq 9, 3) := by decide +kernel
theorem k222_19 : decode (mB 222) 19 = .ok (.aload_n 0, 1) := by decide +kernel
theorem k222_20 : decode (mB 222) 20 = .ok (.bipush 12, 2) := by decide +kernel
theorem k222_22 : decode (mB 222) 22 = .ok (.invokevirtual 215, 3) ∧ tVn (mO 222) 215 = some 1 ∧ tV (mO 222) 215 11 = some 219 := by decide +kernel
theorem k222_25 : decode (mB 222) 25 = .ok (.aload_n 0, 1) := by decide +kernel
theorem k222_26 : decode (mB 222) 26 = .ok (.bipush 11, 2) := by decide +kernel
theorem k222_28 : decode (mB 222) 28 = .ok (.invokevirtual 215, 3) ∧ tVn (mO 222) 215 = some 1 ∧ tV (mO 222) 215 11 = some 219 := by decide +kernel
theorem k222_31 : decode (mB 222) 31 = .ok (.aload_n 0, 1) := by decide +kernel
theorem k222_32 : decode (mB 222) 32 = .ok (.bipush 10, 2) := by decide +kernel
theorem k222_34 : decode (mB 222) 34 = .ok (.invokevirtual 215, 3) ∧ tVn (mO 222) 215 = some 1 ∧ tV (mO 222) 215 11 = some 219 := by decide +kernel
theorem k222_37 : decode (mB 222) 37 = .ok (.aload_n 0, 1) := by decide +kernel
theorem k222_38 : decode (mB 222) 38 = .ok (.getfield 25, 3) ∧ tF (mO 222) 25 = some (11, 13, 1, 1) := by decide +kernel
theorem k222_41 : decode (mB 222) 41 = .ok (.iconst 3, 1) := by decide +kernel
theorem k222_42 : decode (mB 222) 42 = .ok (.iconst 5, 1) := by decide +kernel
theorem k222_43 : decode (mB 222) 43 = .ok (.iload_n 1, 1) := by decide +kernel
theorem k222_44 : decode (mB 222) 44 = .ok (.imul, 1) := by decide +kernel
theorem k222_45 : decode (mB 222) 45 = .ok (.iadd, 1) := by decide +kernel
theorem k222_46 : decode (mB 222) 46 = .ok (.iconst 3, 1) := by decide +kernel
theorem k222_47 : decode (mB 222) 47 = .ok (.iadd, 1) := by decide +kernel
theorem k222_48 : decode (mB 222) 48 = .ok (.iaload, 1) := by decide +kernel
theorem k222_49 : decode (mB 222) 49 = .ok (.aload_n 0, 1) := by decide +kernel
theorem k222_50 : decode (mB 222) 50 = .ok (.iload_n 1, 1) := by decide +kernel
theorem k222_51 : decode (mB 222) 51 = .ok (.invokevirtual 219, 3) ∧ tVn (mO 222) 219 = some 1 ∧ tV (mO 222) 219 11 = some 220 := by decide +kernel
theorem k222_54 : decode (mB 222) 54 = .ok (.iadd, 1) := by decide +kernel
theorem k222_55 : decode (mB 222) 55 = .ok (.istore_n 3, 1) := by decide +kernel
theorem k222_56 : decode (mB 222) 56 = .ok (.iload_n 2, 1) := by decide +kernel
theorem k222_57 : decode (mB 222) 57 = .ok (.ifCond .eq 8, 3) := by decide +kernel
theorem k222_60 : decode (mB 222) 60 = .ok (.iload_n 3, 1) := by decide +kernel
theorem k222_61 : decode (mB 222) 61 = .ok (.ineg, 1) := by decide +kernel
theorem k222_62 : decode (mB 222) 62 = .ok (.goto 4, 3) := by decide +kernel
theorem k222_65 : decode (mB 222) 65 = .ok (.iload_n 3, 1) := by decide +kernel
theorem k222_66 : decode (mB 222) 66 = .ok (.ireturn, 1) ∧ mR 222 = (some .int) := by decide +kernel
-- 223: ChairPastModel.throneMark:(I)I, locals 2
theorem l223 : mL 223 = 2 := by decide +kernel
theorem k223_0 : decode (mB 223) 0 = .ok (.aload_n 0, 1) := by decide +kernel
theorem k223_1 : decode (mB 223) 1 = .ok (.bipush 23, 2) := by decide +kernel
theorem k223_3 : decode (mB 223) 3 = .ok (.invokevirtual 215, 3) ∧ tVn (mO 223) 215 = some 1 ∧ tV (mO 223) 215 11 = some 219 := by decide +kernel
theorem k223_6 : decode (mB 223) 6 = .ok (.aload_n 0, 1) := by decide +kernel
theorem k223_7 : decode (mB 223) 7 = .ok (.bipush 20, 2) := by decide +kernel
theorem k223_9 : decode (mB 223) 9 = .ok (.invokevirtual 215, 3) ∧ tVn (mO 223) 215 = some 1 ∧ tV (mO 223) 215 11 = some 219 := by decide +kernel
theorem k223_12 : decode (mB 223) 12 = .ok (.aload_n 0, 1) := by decide +kernel
theorem k223_13 : decode (mB 223) 13 = .ok (.getfield 25, 3) ∧ tF (mO 223) 25 = some (11, 13, 1, 1) := by decide +kernel
theorem k223_16 : decode (mB 223) 16 = .ok (.iconst 3, 1) := by decide +kernel
theorem k223_17 : decode (mB 223) 17 = .ok (.iconst 5, 1) := by decide +kernel
theorem k223_18 : decode (mB 223) 18 = .ok (.iload_n 1, 1) := by decide +kernel
theorem k223_19 : decode (mB 223) 19 = .ok (.imul, 1) := by decide +kernel
theorem k223_20 : decode (mB 223) 20 = .ok (.iadd, 1) := by decide +kernel
theorem k223_21 : decode (mB 223) 21 = .ok (.iconst 1, 1) := by decide +kernel
theorem k223_22 : decode (mB 223) 22 = .ok (.iadd, 1) := by decide +kernel
theorem k223_23 : decode (mB 223) 23 = .ok (.iaload, 1) := by decide +kernel
theorem k223_24 : decode (mB 223) 24 = .ok (.aload_n 0, 1) := by decide +kernel
theorem k223_25 : decode (mB 223) 25 = .ok (.iload_n 1, 1) := by decide +kernel
theorem k223_26 : decode (mB 223) 26 = .ok (.invokevirtual 222, 3) ∧ tVn (mO 223) 222 = some 1 ∧ tV (mO 223) 222 11 = some 221 := by decide +kernel
theorem k223_29 : decode (mB 223) 29 = .ok (.isub, 1) := by decide +kernel
theorem k223_30 : decode (mB 223) 30 = .ok (.ireturn, 1) ∧ mR 223 = (some .int) := by decide +kernel
-- 224: ChairPastModel.ask:(II)I, locals 4
theorem l224 : mL 224 = 4 := by decide +kernel
theorem k224_0 : decode (mB 224) 0 = .ok (.aload_n 0, 1) := by decide +kernel
theorem k224_1 : decode (mB 224) 1 = .ok (.iload_n 1, 1) := by decide +kernel
theorem k224_2 : decode (mB 224) 2 = .ok (.invokevirtual 170, 3) ∧ tVn (mO 224) 170 = some 1 ∧ tV (mO 224) 170 11 = some 182 := by decide +kernel
theorem k224_5 : decode (mB 224) 5 = .ok (.ifCond .eq 12, 3) := by decide +kernel
theorem k224_8 : decode (mB 224) 8 = .ok (.iload_n 2, 1) := by decide +kernel
theorem k224_9 : decode (mB 224) 9 = .ok (.iconst 0, 1) := by decide +kernel
theorem k224_10 : decode (mB 224) 10 = .ok (.iconst 1, 1) := by decide +kernel
theorem k224_11 : decode (mB 224) 11 = .ok (.invokestatic 59, 3) ∧ tM (mO 224) 59 = none ∧ tS (mO 224) 59 = some 155 := by decide +kernel
theorem k224_14 : decode (mB 224) 14 = .ok (.ifCond .ne 6, 3) := by decide +kernel
theorem k224_17 : decode (mB 224) 17 = .ok (.ldc 67, 2) ∧ tK (mO 224) 67 = some (-1000001) := by decide +kernel
theorem k224_19 : decode (mB 224) 19 = .ok (.ireturn, 1) ∧ mR 224 = (some .int) := by decide +kernel
theorem k224_20 : decode (mB 224) 20 = .ok (.aload_n 0, 1) := by decide +kernel
theorem k224_21 : decode (mB 224) 21 = .ok (.iconst 0, 1) := by decide +kernel
theorem k224_22 : decode (mB 224) 22 = .ok (.putfield 212, 3) ∧ tF (mO 224) 212 = some (11, 23, 0, 0) := by decide +kernel
theorem k224_25 : decode (mB 224) 25 = .ok (.aload_n 0, 1) := by decide +kernel
theorem k224_26 : decode (mB 224) 26 = .ok (.iload_n 1, 1) := by decide +kernel
theorem k224_27 : decode (mB 224) 27 = .ok (.invokevirtual 209, 3) ∧ tVn (mO 224) 209 = some 1 ∧ tV (mO 224) 209 11 = some 216 := by decide +kernel
theorem k224_30 : decode (mB 224) 30 = .ok (.iconst 4, 1) := by decide +kernel
theorem k224_31 : decode (mB 224) 31 = .ok (.if_icmp .lt 7, 3) := by decide +kernel
theorem k224_34 : decode (mB 224) 34 = .ok (.iconst 1, 1) := by decide +kernel
theorem k224_35 : decode (mB 224) 35 = .ok (.goto 4, 3) := by decide +kernel
theorem k224_38 : decode (mB 224) 38 = .ok (.iconst 0, 1) := by decide +kernel
theorem k224_39 : decode (mB 224) 39 = .ok (.istore_n 3, 1) := by decide +kernel
theorem k224_40 : decode (mB 224) 40 = .ok (.iload_n 2, 1) := by decide +kernel
theorem k224_41 : decode (mB 224) 41 = .ok (.ifCond .ne 21, 3) := by decide +kernel
theorem k224_44 : decode (mB 224) 44 = .ok (.iload_n 3, 1) := by decide +kernel
theorem k224_45 : decode (mB 224) 45 = .ok (.ifCond .eq 11, 3) := by decide +kernel
theorem k224_48 : decode (mB 224) 48 = .ok (.aload_n 0, 1) := by decide +kernel
theorem k224_49 : decode (mB 224) 49 = .ok (.iload_n 1, 1) := by decide +kernel
theorem k224_50 : decode (mB 224) 50 = .ok (.invokevirtual 222, 3) ∧ tVn (mO 224) 222 = some 1 ∧ tV (mO 224) 222 11 = some 221 := by decide +kernel
theorem k224_53 : decode (mB 224) 53 = .ok (.goto 8, 3) := by decide +kernel
theorem k224_56 : decode (mB 224) 56 = .ok (.aload_n 0, 1) := by decide +kernel
theorem k224_57 : decode (mB 224) 57 = .ok (.iload_n 1, 1) := by decide +kernel
theorem k224_58 : decode (mB 224) 58 = .ok (.invokevirtual 225, 3) ∧ tVn (mO 224) 225 = some 1 ∧ tV (mO 224) 225 11 = some 222 := by decide +kernel
theorem k224_61 : decode (mB 224) 61 = .ok (.ireturn, 1) ∧ mR 224 = (some .int) := by decide +kernel
theorem k224_62 : decode (mB 224) 62 = .ok (.iload_n 3, 1) := by decide +kernel
theorem k224_63 : decode (mB 224) 63 = .ok (.ifCond .eq 11, 3) := by decide +kernel
theorem k224_66 : decode (mB 224) 66 = .ok (.aload_n 0, 1) := by decide +kernel
theorem k224_67 : decode (mB 224) 67 = .ok (.iload_n 1, 1) := by decide +kernel
theorem k224_68 : decode (mB 224) 68 = .ok (.invokevirtual 228, 3) ∧ tVn (mO 224) 228 = some 1 ∧ tV (mO 224) 228 11 = some 223 := by decide +kernel
theorem k224_71 : decode (mB 224) 71 = .ok (.goto 8, 3) := by decide +kernel
theorem k224_74 : decode (mB 224) 74 = .ok (.aload_n 0, 1) := by decide +kernel
theorem k224_75 : decode (mB 224) 75 = .ok (.iload_n 1, 1) := by decide +kernel
theorem k224_76 : decode (mB 224) 76 = .ok (.invokevirtual 219, 3) ∧ tVn (mO 224) 219 = some 1 ∧ tV (mO 224) 219 11 = some 220 := by decide +kernel
theorem k224_79 : decode (mB 224) 79 = .ok (.ireturn, 1) ∧ mR 224 = (some .int) := by decide +kernel
