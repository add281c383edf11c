-- 170: ChairPastModel.advances:()V, locals 2
theorem l170 : mL 170 = 2 := by decide +kernel
theorem k170_0 : decode (mB 170) 0 = .ok (.aload_n 0, 1) := by decide +kernel
theorem k170_1 : decode (mB 170) 1 = .ok (.aload_n 0, 1) := by decide +kernel
theorem k170_2 : decode (mB 170) 2 = .ok (.getfield 89, 3) ∧ tF (mO 170) 89 = some (11, 9, 0, 0) := by decide +kernel
theorem k170_5 : decode (mB 170) 5 = .ok (.putfield 92, 3) ∧ tF (mO 170) 92 = some (11, 10, 0, 0) := by decide +kernel
theorem k170_8 : decode (mB 170) 8 = .ok (.aload_n 0, 1) := by decide +kernel
theorem k170_9 : decode (mB 170) 9 = .ok (.aload_n 0, 1) := by decide +kernel
theorem k170_10 : decode (mB 170) 10 = .ok (.getfield 89, 3) ∧ tF (mO 170) 89 = some (11, 9, 0, 0) := by decide +kernel
theorem k170_13 : decode (mB 170) 13 = .ok (.invokevirtual 95, 3) ∧ tVn (mO 170) 95 = some 1 ∧ tV (mO 170) 95 11 = some 169 := by decide +kernel
theorem k170_16 : decode (mB 170) 16 = .ok (.istore_n 1, 1) := by decide +kernel
theorem k170_17 : decode (mB 170) 17 = .ok (.aload_n 0, 1) := by decide +kernel
theorem k170_18 : decode (mB 170) 18 = .ok (.iload_n 1, 1) := by decide +kernel
theorem k170_19 : decode (mB 170) 19 = .ok (.putfield 98, 3) ∧ tF (mO 170) 98 = some (11, 12, 0, 0) := by decide +kernel
theorem k170_22 : decode (mB 170) 22 = .ok (.iload_n 1, 1) := by decide +kernel
theorem k170_23 : decode (mB 170) 23 = .ok (.bipush 48, 2) := by decide +kernel
theorem k170_25 : decode (mB 170) 25 = .ok (.bipush 57, 2) := by decide +kernel
theorem k170_27 : decode (mB 170) 27 = .ok (.invokestatic 59, 3) ∧ tM (mO 170) 59 = none ∧ tS (mO 170) 59 = some 155 := by decide +kernel
theorem k170_30 : decode (mB 170) 30 = .ok (.ifCond .eq 105, 3) := by decide +kernel
theorem k170_33 : decode (mB 170) 33 = .ok (.aload_n 0, 1) := by decide +kernel
theorem k170_34 : decode (mB 170) 34 = .ok (.iconst 0, 1) := by decide +kernel
theorem k170_35 : decode (mB 170) 35 = .ok (.putfield 98, 3) ∧ tF (mO 170) 98 = some (11, 12, 0, 0) := by decide +kernel
theorem k170_38 : decode (mB 170) 38 = .ok (.aload_n 0, 1) := by decide +kernel
theorem k170_39 : decode (mB 170) 39 = .ok (.aload_n 0, 1) := by decide +kernel
theorem k170_40 : decode (mB 170) 40 = .ok (.getfield 89, 3) ∧ tF (mO 170) 89 = some (11, 9, 0, 0) := by decide +kernel
theorem k170_43 : decode (mB 170) 43 = .ok (.invokevirtual 95, 3) ∧ tVn (mO 170) 95 = some 1 ∧ tV (mO 170) 95 11 = some 169 := by decide +kernel
theorem k170_46 : decode (mB 170) 46 = .ok (.bipush 48, 2) := by decide +kernel
theorem k170_48 : decode (mB 170) 48 = .ok (.bipush 57, 2) := by decide +kernel
theorem k170_50 : decode (mB 170) 50 = .ok (.invokestatic 59, 3) ∧ tM (mO 170) 59 = none ∧ tS (mO 170) 59 = some 155 := by decide +kernel
theorem k170_53 : decode (mB 170) 53 = .ok (.ifCond .eq 59, 3) := by decide +kernel
theorem k170_56 : decode (mB 170) 56 = .ok (.aload_n 0, 1) := by decide +kernel
theorem k170_57 : decode (mB 170) 57 = .ok (.aload_n 0, 1) := by decide +kernel
theorem k170_58 : decode (mB 170) 58 = .ok (.getfield 89, 3) ∧ tF (mO 170) 89 = some (11, 9, 0, 0) := by decide +kernel
theorem k170_61 : decode (mB 170) 61 = .ok (.aload_n 0, 1) := by decide +kernel
theorem k170_62 : decode (mB 170) 62 = .ok (.getfield 92, 3) ∧ tF (mO 170) 92 = some (11, 10, 0, 0) := by decide +kernel
theorem k170_65 : decode (mB 170) 65 = .ok (.isub, 1) := by decide +kernel
theorem k170_66 : decode (mB 170) 66 = .ok (.iconst 2, 1) := by decide +kernel
theorem k170_67 : decode (mB 170) 67 = .ok (.if_icmp .ge 25, 3) := by decide +kernel
theorem k170_70 : decode (mB 170) 70 = .ok (.bipush 10, 2) := by decide +kernel
theorem k170_72 : decode (mB 170) 72 = .ok (.aload_n 0, 1) := by decide +kernel
theorem k170_73 : decode (mB 170) 73 = .ok (.getfield 98, 3) ∧ tF (mO 170) 98 = some (11, 12, 0, 0) := by decide +kernel
theorem k170_76 : decode (mB 170) 76 = .ok (.imul, 1) := by decide +kernel
theorem k170_77 : decode (mB 170) 77 = .ok (.aload_n 0, 1) := by decide +kernel
theorem k170_78 : decode (mB 170) 78 = .ok (.aload_n 0, 1) := by decide +kernel
theorem k170_79 : decode (mB 170) 79 = .ok (.getfield 89, 3) ∧ tF (mO 170) 89 = some (11, 9, 0, 0) := by decide +kernel
theorem k170_82 : decode (mB 170) 82 = .ok (.invokevirtual 95, 3) ∧ tVn (mO 170) 95 = some 1 ∧ tV (mO 170) 95 11 = some 169 := by decide +kernel
theorem k170_85 : decode (mB 170) 85 = .ok (.iadd, 1) := by decide +kernel
theorem k170_86 : decode (mB 170) 86 = .ok (.bipush 48, 2) := by decide +kernel
theorem k170_88 : decode (mB 170) 88 = .ok (.isub, 1) := by decide +kernel
theorem k170_89 : decode (mB 170) 89 = .ok (.goto 7, 3) := by decide +kernel
theorem k170_92 : decode (mB 170) 92 = .ok (.aload_n 0, 1) := by decide +kernel
theorem k170_93 : decode (mB 170) 93 = .ok (.getfield 98, 3) ∧ tF (mO 170) 98 = some (11, 12, 0, 0) := by decide +kernel
theorem k170_96 : decode (mB 170) 96 = .ok (.putfield 98, 3) ∧ tF (mO 170) 98 = some (11, 12, 0, 0) := by decide +kernel
theorem k170_99 : decode (mB 170) 99 = .ok (.aload_n 0, 1) := by decide +kernel
theorem k170_100 : decode (mB 170) 100 = .ok (.dup, 1) := by decide +kernel
theorem k170_101 : decode (mB 170) 101 = .ok (.getfield 89, 3) ∧ tF (mO 170) 89 = some (11, 9, 0, 0) := by decide +kernel
theorem k170_104 : decode (mB 170) 104 = .ok (.iconst 1, 1) := by decide +kernel
theorem k170_105 : decode (mB 170) 105 = .ok (.iadd, 1) := by decide +kernel
theorem k170_106 : decode (mB 170) 106 = .ok (.putfield 89, 3) ∧ tF (mO 170) 89 = some (11, 9, 0, 0) := by decide +kernel
theorem k170_109 : decode (mB 170) 109 = .ok (.goto (-71), 3) := by decide +kernel
theorem k170_112 : decode (mB 170) 112 = .ok (.aload_n 0, 1) := by decide +kernel
theorem k170_113 : decode (mB 170) 113 = .ok (.aload_n 0, 1) := by decide +kernel
theorem k170_114 : decode (mB 170) 114 = .ok (.getfield 89, 3) ∧ tF (mO 170) 89 = some (11, 9, 0, 0) := by decide +kernel
theorem k170_117 : decode (mB 170) 117 = .ok (.aload_n 0, 1) := by decide +kernel
theorem k170_118 : decode (mB 170) 118 = .ok (.getfield 92, 3) ∧ tF (mO 170) 92 = some (11, 10, 0, 0) := by decide +kernel
theorem k170_121 : decode (mB 170) 121 = .ok (.isub, 1) := by decide +kernel
theorem k170_122 : decode (mB 170) 122 = .ok (.iconst 3, 1) := by decide +kernel
theorem k170_123 : decode (mB 170) 123 = .ok (.if_icmp .ge 7, 3) := by decide +kernel
theorem k170_126 : decode (mB 170) 126 = .ok (.iconst 2, 1) := by decide +kernel
theorem k170_127 : decode (mB 170) 127 = .ok (.goto 4, 3) := by decide +kernel
theorem k170_130 : decode (mB 170) 130 = .ok (.iconst 5, 1) := by decide +kernel
theorem k170_131 : decode (mB 170) 131 = .ok (.putfield 101, 3) ∧ tF (mO 170) 101 = some (11, 11, 0, 0) := by decide +kernel
theorem k170_134 : decode (mB 170) 134 = .ok (.return_, 1) ∧ mR 170 = none := by decide +kernel
theorem k170_135 : decode (mB 170) 135 = .ok (.aload_n 0, 1) := by decide +kernel
theorem k170_136 : decode (mB 170) 136 = .ok (.iload_n 1, 1) := by decide +kernel
theorem k170_137 : decode (mB 170) 137 = .ok (.ifCond .ge 7, 3) := by decide +kernel
theorem k170_140 : decode (mB 170) 140 = .ok (.iconst 0, 1) := by decide +kernel
theorem k170_141 : decode (mB 170) 141 = .ok (.goto 39, 3) := by decide +kernel
theorem k170_144 : decode (mB 170) 144 = .ok (.iload_n 1, 1) := by decide +kernel
theorem k170_145 : decode (mB 170) 145 = .ok (.bipush 97, 2) := by decide +kernel
theorem k170_147 : decode (mB 170) 147 = .ok (.bipush 122, 2) := by decide +kernel
theorem k170_149 : decode (mB 170) 149 = .ok (.invokestatic 59, 3) ∧ tM (mO 170) 59 = none ∧ tS (mO 170) 59 = some 155 := by decide +kernel
theorem k170_152 : decode (mB 170) 152 = .ok (.ifCond .eq 7, 3) := by decide +kernel
theorem k170_155 : decode (mB 170) 155 = .ok (.iconst 1, 1) := by decide +kernel
theorem k170_156 : decode (mB 170) 156 = .ok (.goto 24, 3) := by decide +kernel
theorem k170_159 : decode (mB 170) 159 = .ok (.iload_n 1, 1) := by decide +kernel
theorem k170_160 : decode (mB 170) 160 = .ok (.bipush 44, 2) := by decide +kernel
theorem k170_162 : decode (mB 170) 162 = .ok (.if_icmp .ne 7, 3) := by decide +kernel
theorem k170_165 : decode (mB 170) 165 = .ok (.iconst 3, 1) := by decide +kernel
theorem k170_166 : decode (mB 170) 166 = .ok (.goto 14, 3) := by decide +kernel
theorem k170_169 : decode (mB 170) 169 = .ok (.iload_n 1, 1) := by decide +kernel
theorem k170_170 : decode (mB 170) 170 = .ok (.bipush 59, 2) := by decide +kernel
theorem k170_172 : decode (mB 170) 172 = .ok (.if_icmp .ne 7, 3) := by decide +kernel
theorem k170_175 : decode (mB 170) 175 = .ok (.iconst 4, 1) := by decide +kernel
theorem k170_176 : decode (mB 170) 176 = .ok (.goto 4, 3) := by decide +kernel
theorem k170_179 : decode (mB 170) 179 = .ok (.iconst 5, 1) := by decide +kernel
theorem k170_180 : decode (mB 170) 180 = .ok (.putfield 101, 3) ∧ tF (mO 170) 101 = some (11, 11, 0, 0) := by decide +kernel
theorem k170_183 : decode (mB 170) 183 = .ok (.aload_n 0, 1) := by decide +kernel
theorem k170_184 : decode (mB 170) 184 = .ok (.dup, 1) := by decide +kernel
theorem k170_185 : decode (mB 170) 185 = .ok (.getfield 89, 3) ∧ tF (mO 170) 89 = some (11, 9, 0, 0) := by decide +kernel
theorem k170_188 : decode (mB 170) 188 = .ok (.aload_n 0, 1) := by decide +kernel
theorem k170_189 : decode (mB 170) 189 = .ok (.getfield 101, 3) ∧ tF (mO 170) 101 = some (11, 11, 0, 0) := by decide +kernel
theorem k170_192 : decode (mB 170) 192 = .ok (.ifCond .ne 7, 3) := by decide +kernel
theorem k170_195 : decode (mB 170) 195 = .ok (.iconst 0, 1) := by decide +kernel
theorem k170_196 : decode (mB 170) 196 = .ok (.goto 4, 3) := by decide +kernel
theorem k170_199 : decode (mB 170) 199 = .ok (.iconst 1, 1) := by decide +kernel
theorem k170_200 : decode (mB 170) 200 = .ok (.iadd, 1) := by decide +kernel
theorem k170_201 : decode (mB 170) 201 = .ok (.putfield 89, 3) ∧ tF (mO 170) 89 = some (11, 9, 0, 0) := by decide +kernel
theorem k170_204 : decode (mB 170) 204 = .ok (.return_, 1) ∧ mR 170 = none := by decide +kernel
-- 171: ChairPastModel.isWell:()Z, locals 1
theorem l171 : mL 171 = 1 := by decide +kernel
theorem k171_0 : decode (mB 171) 0 = .ok (.aload_n 0, 1) := by decide +kernel
theorem k171_1 : decode (mB 171) 1 = .ok (.getfield 104, 3) ∧ tF (mO 171) 104 = some (11, 8, 0, 0) := by decide +kernel
theorem k171_4 : decode (mB 171) 4 = .ok (.ifCond .ge 7, 3) := by decide +kernel
theorem k171_7 : decode (mB 171) 7 = .ok (.iconst 1, 1) := by decide +kernel
theorem k171_8 : decode (mB 171) 8 = .ok (.goto 4, 3) := by decide +kernel
theorem k171_11 : decode (mB 171) 11 = .ok (.iconst 0, 1) := by decide +kernel
theorem k171_12 : decode (mB 171) 12 = .ok (.ireturn, 1) ∧ mR 171 = (some .boolean) := by decide +kernel
-- 172: ChairPastModel.takes:(ZI)I, locals 4
theorem l172 : mL 172 = 4 := by decide +kernel
theorem k172_0 : decode (mB 172) 0 = .ok (.aload_n 0, 1) := by decide +kernel
theorem k172_1 : decode (mB 172) 1 = .ok (.invokevirtual 107, 3) ∧ tVn (mO 172) 107 = some 0 ∧ tV (mO 172) 107 11 = some 171 := by decide +kernel
theorem k172_4 : decode (mB 172) 4 = .ok (.ifCond .ne 5, 3) := by decide +kernel
theorem k172_7 : decode (mB 172) 7 = .ok (.iconst 0, 1) := by decide +kernel
theorem k172_8 : decode (mB 172) 8 = .ok (.ireturn, 1) ∧ mR 172 = (some .int) := by decide +kernel
theorem k172_9 : decode (mB 172) 9 = .ok (.iload_n 1, 1) := by decide +kernel
theorem k172_10 : decode (mB 172) 10 = .ok (.ifCond .ne 18, 3) := by decide +kernel
theorem k172_13 : decode (mB 172) 13 = .ok (.aload_n 0, 1) := by decide +kernel
theorem k172_14 : decode (mB 172) 14 = .ok (.aload_n 0, 1) := by decide +kernel
theorem k172_15 : decode (mB 172) 15 = .ok (.getfield 92, 3) ∧ tF (mO 172) 92 = some (11, 10, 0, 0) := by decide +kernel
theorem k172_18 : decode (mB 172) 18 = .ok (.putfield 104, 3) ∧ tF (mO 172) 104 = some (11, 8, 0, 0) := by decide +kernel
theorem k172_21 : decode (mB 172) 21 = .ok (.aload_n 0, 1) := by decide +kernel
theorem k172_22 : decode (mB 172) 22 = .ok (.iload_n 2, 1) := by decide +kernel
theorem k172_23 : decode (mB 172) 23 = .ok (.putfield 111, 3) ∧ tF (mO 172) 111 = some (11, 7, 0, 0) := by decide +kernel
theorem k172_26 : decode (mB 172) 26 = .ok (.iconst 0, 1) := by decide +kernel
theorem k172_27 : decode (mB 172) 27 = .ok (.ireturn, 1) ∧ mR 172 = (some .int) := by decide +kernel
theorem k172_28 : decode (mB 172) 28 = .ok (.aload_n 0, 1) := by decide +kernel
theorem k172_29 : decode (mB 172) 29 = .ok (.getfield 98, 3) ∧ tF (mO 172) 98 = some (11, 12, 0, 0) := by decide +kernel
theorem k172_32 : decode (mB 172) 32 = .ok (.istore_n 3, 1) := by decide +kernel
theorem k172_33 : decode (mB 172) 33 = .ok (.aload_n 0, 1) := by decide +kernel
theorem k172_34 : decode (mB 172) 34 = .ok (.invokevirtual 114, 3) ∧ tVn (mO 172) 114 = some 0 ∧ tV (mO 172) 114 11 = some 170 := by decide +kernel
theorem k172_37 : decode (mB 172) 37 = .ok (.iload_n 3, 1) := by decide +kernel
theorem k172_38 : decode (mB 172) 38 = .ok (.ireturn, 1) ∧ mR 172 = (some .int) := by decide +kernel
-- 173: ChairPastModel.figure:(II)I, locals 3
theorem l173 : mL 173 = 3 := by decide +kernel
theorem k173_0 : decode (mB 173) 0 = .ok (.aload_n 0, 1) := by decide +kernel
theorem k173_1 : decode (mB 173) 1 = .ok (.invokevirtual 107, 3) ∧ tVn (mO 173) 107 = some 0 ∧ tV (mO 173) 107 11 = some 171 := by decide +kernel
theorem k173_4 : decode (mB 173) 4 = .ok (.ifCond .eq 18, 3) := by decide +kernel
theorem k173_7 : decode (mB 173) 7 = .ok (.aload_n 0, 1) := by decide +kernel
theorem k173_8 : decode (mB 173) 8 = .ok (.getfield 101, 3) ∧ tF (mO 173) 101 = some (11, 11, 0, 0) := by decide +kernel
theorem k173_11 : decode (mB 173) 11 = .ok (.iconst 2, 1) := by decide +kernel
theorem k173_12 : decode (mB 173) 12 = .ok (.if_icmp .eq 10, 3) := by decide +kernel
theorem k173_15 : decode (mB 173) 15 = .ok (.aload_n 0, 1) := by decide +kernel
theorem k173_16 : decode (mB 173) 16 = .ok (.iconst 0, 1) := by decide +kernel
theorem k173_17 : decode (mB 173) 17 = .ok (.iconst 1, 1) := by decide +kernel
theorem k173_18 : decode (mB 173) 18 = .ok (.invokevirtual 117, 3) ∧ tVn (mO 173) 117 = some 2 ∧ tV (mO 173) 117 11 = some 172 := by decide +kernel
theorem k173_21 : decode (mB 173) 21 = .ok (.ireturn, 1) ∧ mR 173 = (some .int) := by decide +kernel
theorem k173_22 : decode (mB 173) 22 = .ok (.aload_n 0, 1) := by decide +kernel
theorem k173_23 : decode (mB 173) 23 = .ok (.aload_n 0, 1) := by decide +kernel
theorem k173_24 : decode (mB 173) 24 = .ok (.getfield 98, 3) ∧ tF (mO 173) 98 = some (11, 12, 0, 0) := by decide +kernel
theorem k173_27 : decode (mB 173) 27 = .ok (.iload_n 1, 1) := by decide +kernel
theorem k173_28 : decode (mB 173) 28 = .ok (.iload_n 2, 1) := by decide +kernel
theorem k173_29 : decode (mB 173) 29 = .ok (.invokestatic 59, 3) ∧ tM (mO 173) 59 = none ∧ tS (mO 173) 59 = some 155 := by decide +kernel
theorem k173_32 : decode (mB 173) 32 = .ok (.iconst 2, 1) := by decide +kernel
theorem k173_33 : decode (mB 173) 33 = .ok (.invokevirtual 117, 3) ∧ tVn (mO 173) 117 = some 2 ∧ tV (mO 173) 117 11 = some 172 := by decide +kernel
theorem k173_36 : decode (mB 173) 36 = .ok (.ireturn, 1) ∧ mR 173 = (some .int) := by decide +kernel
-- 174: ChairPastModel.kindOf:(I)I, locals 1
theorem l174 : mL 174 = 1 := by decide +kernel
theorem k174_0 : decode (mB 174) 0 = .ok (.iload_n 0, 1) := by decide +kernel
theorem k174_1 : decode (mB 174) 1 = .ok (.bipush 112, 2) := by decide +kernel
theorem k174_3 : decode (mB 174) 3 = .ok (.if_icmp .ne 7, 3) := by decide +kernel
theorem k174_6 : decode (mB 174) 6 = .ok (.iconst 1, 1) := by decide +kernel
theorem k174_7 : decode (mB 174) 7 = .ok (.goto 44, 3) := by decide +kernel
theorem k174_10 : decode (mB 174) 10 = .ok (.iload_n 0, 1) := by decide +kernel
theorem k174_11 : decode (mB 174) 11 = .ok (.bipush 114, 2) := by decide +kernel
theorem k174_13 : decode (mB 174) 13 = .ok (.if_icmp .ne 7, 3) := by decide +kernel
theorem k174_16 : decode (mB 174) 16 = .ok (.iconst 2, 1) := by decide +kernel
theorem k174_17 : decode (mB 174) 17 = .ok (.goto 34, 3) := by decide +kernel
theorem k174_20 : decode (mB 174) 20 = .ok (.iload_n 0, 1) := by decide +kernel
theorem k174_21 : decode (mB 174) 21 = .ok (.bipush 98, 2) := by decide +kernel
theorem k174_23 : decode (mB 174) 23 = .ok (.if_icmp .ne 7, 3) := by decide +kernel
theorem k174_26 : decode (mB 174) 26 = .ok (.iconst 3, 1) := by decide +kernel
theorem k174_27 : decode (mB 174) 27 = .ok (.goto 24, 3) := by decide +kernel
theorem k174_30 : decode (mB 174) 30 = .ok (.iload_n 0, 1) := by decide +kernel
theorem k174_31 : decode (mB 174) 31 = .ok (.bipush 116, 2) := by decide +kernel
theorem k174_33 : decode (mB 174) 33 = .ok (.if_icmp .ne 7, 3) := by decide +kernel
theorem k174_36 : decode (mB 174) 36 = .ok (.iconst 4, 1) := by decide +kernel
theorem k174_37 : decode (mB 174) 37 = .ok (.goto 14, 3) := by decide +kernel
theorem k174_40 : decode (mB 174) 40 = .ok (.iload_n 0, 1) := by decide +kernel
theorem k174_41 : decode (mB 174) 41 = .ok (.bipush 100, 2) := by decide +kernel
theorem k174_43 : decode (mB 174) 43 = .ok (.if_icmp .ne 7, 3) := by decide +kernel
theorem k174_46 : decode (mB 174) 46 = .ok (.iconst 5, 1) := by decide +kernel
theorem k174_47 : decode (mB 174) 47 = .ok (.goto 4, 3) := by decide +kernel
theorem k174_50 : decode (mB 174) 50 = .ok (.iconst 0, 1) := by decide +kernel
theorem k174_51 : decode (mB 174) 51 = .ok (.ireturn, 1) ∧ mR 174 = (some .int) := by decide +kernel
-- 175: ChairPastModel.follows:(II)I, locals 3
theorem l175 : mL 175 = 3 := by decide +kernel
theorem k175_0 : decode (mB 175) 0 = .ok (.aload_n 0, 1) := by decide +kernel
theorem k175_1 : decode (mB 175) 1 = .ok (.aload_n 0, 1) := by decide +kernel
theorem k175_2 : decode (mB 175) 2 = .ok (.getfield 101, 3) ∧ tF (mO 175) 101 = some (11, 11, 0, 0) := by decide +kernel
theorem k175_5 : decode (mB 175) 5 = .ok (.iconst 3, 1) := by decide +kernel
theorem k175_6 : decode (mB 175) 6 = .ok (.if_icmp .ne 7, 3) := by decide +kernel
theorem k175_9 : decode (mB 175) 9 = .ok (.iconst 1, 1) := by decide +kernel
theorem k175_10 : decode (mB 175) 10 = .ok (.goto 4, 3) := by decide +kernel
theorem k175_13 : decode (mB 175) 13 = .ok (.iconst 0, 1) := by decide +kernel
theorem k175_14 : decode (mB 175) 14 = .ok (.iconst 1, 1) := by decide +kernel
theorem k175_15 : decode (mB 175) 15 = .ok (.invokevirtual 117, 3) ∧ tVn (mO 175) 117 = some 2 ∧ tV (mO 175) 117 11 = some 172 := by decide +kernel
theorem k175_18 : decode (mB 175) 18 = .ok (.pop, 1) := by decide +kernel
theorem k175_19 : decode (mB 175) 19 = .ok (.aload_n 0, 1) := by decide +kernel
theorem k175_20 : decode (mB 175) 20 = .ok (.iload_n 1, 1) := by decide +kernel
theorem k175_21 : decode (mB 175) 21 = .ok (.iload_n 2, 1) := by decide +kernel
theorem k175_22 : decode (mB 175) 22 = .ok (.invokevirtual 121, 3) ∧ tVn (mO 175) 121 = some 2 ∧ tV (mO 175) 121 11 = some 173 := by decide +kernel
theorem k175_25 : decode (mB 175) 25 = .ok (.ireturn, 1) ∧ mR 175 = (some .int) := by decide +kernel
-- 176: ChairPastModel.readsChair:()V, locals 6
theorem l176 : mL 176 = 6 := by decide +kernel
theorem k176_0 : decode (mB 176) 0 = .ok (.aload_n 0, 1) := by decide +kernel
theorem k176_1 : decode (mB 176) 1 = .ok (.getfield 98, 3) ∧ tF (mO 176) 98 = some (11, 12, 0, 0) := by decide +kernel
theorem k176_4 : decode (mB 176) 4 = .ok (.invokestatic 124, 3) ∧ tM (mO 176) 124 = none ∧ tS (mO 176) 124 = some 174 := by decide +kernel
theorem k176_7 : decode (mB 176) 7 = .ok (.istore_n 1, 1) := by decide +kernel
theorem k176_8 : decode (mB 176) 8 = .ok (.aload_n 0, 1) := by decide +kernel
theorem k176_9 : decode (mB 176) 9 = .ok (.aload_n 0, 1) := by decide +kernel
theorem k176_10 : decode (mB 176) 10 = .ok (.getfield 28, 3) ∧ tF (mO 176) 28 = some (11, 14, 1, 1) := by decide +kernel
theorem k176_13 : decode (mB 176) 13 = .ok (.iconst 1, 1) := by decide +kernel
theorem k176_14 : decode (mB 176) 14 = .ok (.iaload, 1) := by decide +kernel
theorem k176_15 : decode (mB 176) 15 = .ok (.iconst 5, 1) := by decide +kernel
theorem k176_16 : decode (mB 176) 16 = .ok (.if_icmp .ge 7, 3) := by decide +kernel
theorem k176_19 : decode (mB 176) 19 = .ok (.iconst 1, 1) := by decide +kernel
theorem k176_20 : decode (mB 176) 20 = .ok (.goto 4, 3) := by decide +kernel
theorem k176_23 : decode (mB 176) 23 = .ok (.iconst 0, 1) := by decide +kernel
theorem k176_24 : decode (mB 176) 24 = .ok (.iconst 3, 1) := by decide +kernel
theorem k176_25 : decode (mB 176) 25 = .ok (.invokevirtual 117, 3) ∧ tVn (mO 176) 117 = some 2 ∧ tV (mO 176) 117 11 = some 172 := by decide +kernel
theorem k176_28 : decode (mB 176) 28 = .ok (.pop, 1) := by decide +kernel
theorem k176_29 : decode (mB 176) 29 = .ok (.iconst 3, 1) := by decide +kernel
theorem k176_30 : decode (mB 176) 30 = .ok (.iconst 5, 1) := by decide +kernel
theorem k176_31 : decode (mB 176) 31 = .ok (.aload_n 0, 1) := by decide +kernel
theorem k176_32 : decode (mB 176) 32 = .ok (.getfield 28, 3) ∧ tF (mO 176) 28 = some (11, 14, 1, 1) := by decide +kernel
theorem k176_35 : decode (mB 176) 35 = .ok (.iconst 1, 1) := by decide +kernel
theorem k176_36 : decode (mB 176) 36 = .ok (.iaload, 1) := by decide +kernel
theorem k176_37 : decode (mB 176) 37 = .ok (.iconst 5, 1) := by decide +kernel
theorem k176_38 : decode (mB 176) 38 = .ok (.if_icmp .ge 12, 3) := by decide +kernel
theorem k176_41 : decode (mB 176) 41 = .ok (.aload_n 0, 1) := by decide +kernel
theorem k176_42 : decode (mB 176) 42 = .ok (.getfield 28, 3) ∧ tF (mO 176) 28 = some (11, 14, 1, 1) := by decide +kernel
theorem k176_45 : decode (mB 176) 45 = .ok (.iconst 1, 1) := by decide +kernel
theorem k176_46 : decode (mB 176) 46 = .ok (.iaload, 1) := by decide +kernel
theorem k176_47 : decode (mB 176) 47 = .ok (.goto 4, 3) := by decide +kernel
theorem k176_50 : decode (mB 176) 50 = .ok (.iconst 0, 1) := by decide +kernel
theorem k176_51 : decode (mB 176) 51 = .ok (.imul, 1) := by decide +kernel
theorem k176_52 : decode (mB 176) 52 = .ok (.iadd, 1) := by decide +kernel
theorem k176_53 : decode (mB 176) 53 = .ok (.istore_n 2, 1) := by decide +kernel
theorem k176_54 : decode (mB 176) 54 = .ok (.aload_n 0, 1) := by decide +kernel
theorem k176_55 : decode (mB 176) 55 = .ok (.iconst 0, 1) := by decide +kernel
theorem k176_56 : decode (mB 176) 56 = .ok (.bipush 9, 2) := by decide +kernel
theorem k176_58 : decode (mB 176) 58 = .ok (.invokevirtual 121, 3) ∧ tVn (mO 176) 121 = some 2 ∧ tV (mO 176) 121 11 = some 173 := by decide +kernel
theorem k176_61 : decode (mB 176) 61 = .ok (.istore_n 3, 1) := by decide +kernel
theorem k176_62 : decode (mB 176) 62 = .ok (.aload_n 0, 1) := by decide +kernel
theorem k176_63 : decode (mB 176) 63 = .ok (.iconst 0, 1) := by decide +kernel
theorem k176_64 : decode (mB 176) 64 = .ok (.bipush 16, 2) := by decide +kernel
theorem k176_66 : decode (mB 176) 66 = .ok (.invokevirtual 127, 3) ∧ tVn (mO 176) 127 = some 2 ∧ tV (mO 176) 127 11 = some 175 := by decide +kernel
theorem k176_69 : decode (mB 176) 69 = .ok (.istore 4, 2) := by decide +kernel
theorem k176_71 : decode (mB 176) 71 = .ok (.aload_n 0, 1) := by decide +kernel
theorem k176_72 : decode (mB 176) 72 = .ok (.iconst 0, 1) := by decide +kernel
theorem k176_73 : decode (mB 176) 73 = .ok (.iconst 3, 1) := by decide +kernel
theorem k176_74 : decode (mB 176) 74 = .ok (.invokevirtual 127, 3) ∧ tVn (mO 176) 127 = some 2 ∧ tV (mO 176) 127 11 = some 175 := by decide +kernel
theorem k176_77 : decode (mB 176) 77 = .ok (.istore 5, 2) := by decide +kernel
theorem k176_79 : decode (mB 176) 79 = .ok (.aload_n 0, 1) := by decide +kernel
theorem k176_80 : decode (mB 176) 80 = .ok (.aload_n 0, 1) := by decide +kernel
theorem k176_81 : decode (mB 176) 81 = .ok (.getfield 101, 3) ∧ tF (mO 176) 101 = some (11, 11, 0, 0) := by decide +kernel
theorem k176_84 : decode (mB 176) 84 = .ok (.iconst 4, 1) := by decide +kernel
theorem k176_85 : decode (mB 176) 85 = .ok (.if_icmp .ne 7, 3) := by decide +kernel
theorem k176_88 : decode (mB 176) 88 = .ok (.iconst 1, 1) := by decide +kernel
theorem k176_89 : decode (mB 176) 89 = .ok (.goto 4, 3) := by decide +kernel
theorem k176_92 : decode (mB 176) 92 = .ok (.iconst 0, 1) := by decide +kernel
theorem k176_93 : decode (mB 176) 93 = .ok (.iconst 1, 1) := by decide +kernel
theorem k176_94 : decode (mB 176) 94 = .ok (.invokevirtual 117, 3) ∧ tVn (mO 176) 117 = some 2 ∧ tV (mO 176) 117 11 = some 172 := by decide +kernel
theorem k176_97 : decode (mB 176) 97 = .ok (.pop, 1) := by decide +kernel
theorem k176_98 : decode (mB 176) 98 = .ok (.aload_n 0, 1) := by decide +kernel
theorem k176_99 : decode (mB 176) 99 = .ok (.invokevirtual 107, 3) ∧ tVn (mO 176) 107 = some 0 ∧ tV (mO 176) 107 11 = some 171 := by decide +kernel
theorem k176_102 : decode (mB 176) 102 = .ok (.ifCond .eq 49, 3) := by decide +kernel
theorem k176_105 : decode (mB 176) 105 = .ok (.aload_n 0, 1) := by decide +kernel
theorem k176_106 : decode (mB 176) 106 = .ok (.getfield 28, 3) ∧ tF (mO 176) 28 = some (11, 14, 1, 1) := by decide +kernel
theorem k176_109 : decode (mB 176) 109 = .ok (.iload_n 2, 1) := by decide +kernel
theorem k176_110 : decode (mB 176) 110 = .ok (.iload_n 1, 1) := by decide +kernel
theorem k176_111 : decode (mB 176) 111 = .ok (.iastore, 1) := by decide +kernel
theorem k176_112 : decode (mB 176) 112 = .ok (.aload_n 0, 1) := by decide +kernel
theorem k176_113 : decode (mB 176) 113 = .ok (.getfield 28, 3) ∧ tF (mO 176) 28 = some (11, 14, 1, 1) := by decide +kernel
theorem k176_116 : decode (mB 176) 116 = .ok (.iload_n 2, 1) := by decide +kernel
theorem k176_117 : decode (mB 176) 117 = .ok (.iconst 1, 1) := by decide +kernel
theorem k176_118 : decode (mB 176) 118 = .ok (.iadd, 1) := by decide +kernel
theorem k176_119 : decode (mB 176) 119 = .ok (.iload_n 3, 1) := by decide +kernel
theorem k176_120 : decode (mB 176) 120 = .ok (.iastore, 1) := by decide +kernel
theorem k176_121 : decode (mB 176) 121 = .ok (.aload_n 0, 1) := by decide +kernel
theorem k176_122 : decode (mB 176) 122 = .ok (.getfield 28, 3) ∧ tF (mO 176) 28 = some (11, 14, 1, 1) := by decide +kernel
theorem k176_125 : decode (mB 176) 125 = .ok (.iload_n 2, 1) := by decide +kernel
theorem k176_126 : decode (mB 176) 126 = .ok (.iconst 2, 1) := by decide +kernel
theorem k176_127 : decode (mB 176) 127 = .ok (.iadd, 1) := by decide +kernel
theorem k176_128 : decode (mB 176) 128 = .ok (.iload 4, 2) := by decide +kernel
theorem k176_130 : decode (mB 176) 130 = .ok (.iastore, 1) := by decide +kernel
theorem k176_131 : decode (mB 176) 131 = .ok (.aload_n 0, 1) := by decide +kernel
theorem k176_132 : decode (mB 176) 132 = .ok (.getfield 28, 3) ∧ tF (mO 176) 28 = some (11, 14, 1, 1) := by decide +kernel
theorem k176_135 : decode (mB 176) 135 = .ok (.iload_n 2, 1) := by decide +kernel
theorem k176_136 : decode (mB 176) 136 = .ok (.iconst 3, 1) := by decide +kernel
theorem k176_137 : decode (mB 176) 137 = .ok (.iadd, 1) := by decide +kernel
theorem k176_138 : decode (mB 176) 138 = .ok (.iload 5, 2) := by decide +kernel
theorem k176_140 : decode (mB 176) 140 = .ok (.iastore, 1) := by decide +kernel
theorem k176_141 : decode (mB 176) 141 = .ok (.aload_n 0, 1) := by decide +kernel
theorem k176_142 : decode (mB 176) 142 = .ok (.getfield 28, 3) ∧ tF (mO 176) 28 = some (11, 14, 1, 1) := by decide +kernel
theorem k176_145 : decode (mB 176) 145 = .ok (.iconst 1, 1) := by decide +kernel
theorem k176_146 : decode (mB 176) 146 = .ok (.dup2, 1) := by decide +kernel
theorem k176_147 : decode (mB 176) 147 = .ok (.iaload, 1) := by decide +kernel
theorem k176_148 : decode (mB 176) 148 = .ok (.iconst 1, 1) := by decide +kernel
theorem k176_149 : decode (mB 176) 149 = .ok (.iadd, 1) := by decide +kernel
theorem k176_150 : decode (mB 176) 150 = .ok (.iastore, 1) := by decide +kernel
theorem k176_151 : decode (mB 176) 151 = .ok (.return_, 1) ∧ mR 176 = none := by decide +kernel
-- 177: ChairPastModel.readsGuest:()V, locals 4
theorem l177 : mL 177 = 4 := by decide +kernel
theorem k177_0 : decode (mB 177) 0 = .ok (.aload_n 0, 1) := by decide +kernel
theorem k177_1 : decode (mB 177) 1 = .ok (.aload_n 0, 1) := by decide +kernel
theorem k177_2 : decode (mB 177) 2 = .ok (.getfield 28, 3) ∧ tF (mO 177) 28 = some (11, 14, 1, 1) := by decide +kernel
theorem k177_5 : decode (mB 177) 5 = .ok (.iconst 2, 1) := by decide +kernel
theorem k177_6 : decode (mB 177) 6 = .ok (.iaload, 1) := by decide +kernel
theorem k177_7 : decode (mB 177) 7 = .ok (.iconst 5, 1) := by decide +kernel
theorem k177_8 : decode (mB 177) 8 = .ok (.if_icmp .ge 7, 3) := by decide +kernel
theorem k177_11 : decode (mB 177) 11 = .ok (.iconst 1, 1) := by decide +kernel
theorem k177_12 : decode (mB 177) 12 = .ok (.goto 4, 3) := by decide +kernel
theorem k177_15 : decode (mB 177) 15 = .ok (.iconst 0, 1) := by decide +kernel
theorem k177_16 : decode (mB 177) 16 = .ok (.iconst 3, 1) := by decide +kernel
theorem k177_17 : decode (mB 177) 17 = .ok (.invokevirtual 117, 3) ∧ tVn (mO 177) 117 = some 2 ∧ tV (mO 177) 117 11 = some 172 := by decide +kernel
theorem k177_20 : decode (mB 177) 20 = .ok (.pop, 1) := by decide +kernel
theorem k177_21 : decode (mB 177) 21 = .ok (.bipush 28, 2) := by decide +kernel
theorem k177_23 : decode (mB 177) 23 = .ok (.iconst 4, 1) := by decide +kernel
theorem k177_24 : decode (mB 177) 24 = .ok (.aload_n 0, 1) := by decide +kernel
theorem k177_25 : decode (mB 177) 25 = .ok (.getfield 28, 3) ∧ tF (mO 177) 28 = some (11, 14, 1, 1) := by decide +kernel
theorem k177_28 : decode (mB 177) 28 = .ok (.iconst 2, 1) := by decide +kernel
theorem k177_29 : decode (mB 177) 29 = .ok (.iaload, 1) := by decide +kernel
theorem k177_30 : decode (mB 177) 30 = .ok (.iconst 5, 1) := by decide +kernel
theorem k177_31 : decode (mB 177) 31 = .ok (.if_icmp .ge 12, 3) := by decide +kernel
theorem k177_34 : decode (mB 177) 34 = .ok (.aload_n 0, 1) := by decide +kernel
theorem k177_35 : decode (mB 177) 35 = .ok (.getfield 28, 3) ∧ tF (mO 177) 28 = some (11, 14, 1, 1) := by decide +kernel
theorem k177_38 : decode (mB 177) 38 = .ok (.iconst 2, 1) := by decide +kernel
theorem k177_39 : decode (mB 177) 39 = .ok (.iaload, 1) := by decide +kernel
theorem k177_40 : decode (mB 177) 40 = .ok (.goto 4, 3) := by decide +kernel
theorem k177_43 : decode (mB 177) 43 = .ok (.iconst 0, 1) := by decide +kernel
theorem k177_44 : decode (mB 177) 44 = .ok (.imul, 1) := by decide +kernel
theorem k177_45 : decode (mB 177) 45 = .ok (.iadd, 1) := by decide +kernel
theorem k177_46 : decode (mB 177) 46 = .ok (.istore_n 1, 1) := by decide +kernel
theorem k177_47 : decode (mB 177) 47 = .ok (.aload_n 0, 1) := by decide +kernel
theorem k177_48 : decode (mB 177) 48 = .ok (.iconst 0, 1) := by decide +kernel
theorem k177_49 : decode (mB 177) 49 = .ok (.bipush 9, 2) := by decide +kernel
theorem k177_51 : decode (mB 177) 51 = .ok (.invokevirtual 121, 3) ∧ tVn (mO 177) 121 = some 2 ∧ tV (mO 177) 121 11 = some 173 := by decide +kernel
theorem k177_54 : decode (mB 177) 54 = .ok (.istore_n 2, 1) := by decide +kernel
theorem k177_55 : decode (mB 177) 55 = .ok (.aload_n 0, 1) := by decide +kernel
theorem k177_56 : decode (mB 177) 56 = .ok (.iconst 1, 1) := by decide +kernel
theorem k177_57 : decode (mB 177) 57 = .ok (.bipush 9, 2) := by decide +kernel
theorem k177_59 : decode (mB 177) 59 = .ok (.invokevirtual 127, 3) ∧ tVn (mO 177) 127 = some 2 ∧ tV (mO 177) 127 11 = some 175 := by decide +kernel
theorem k177_62 : decode (mB 177) 62 = .ok (.istore_n 3, 1) := by decide +kernel
theorem k177_63 : decode (mB 177) 63 = .ok (.aload_n 0, 1) := by decide +kernel
theorem k177_64 : decode (mB 177) 64 = .ok (.aload_n 0, 1) := by decide +kernel
theorem k177_65 : decode (mB 177) 65 = .ok (.getfield 101, 3) ∧ tF (mO 177) 101 = some (11, 11, 0, 0) := by decide +kernel
theorem k177_68 : decode (mB 177) 68 = .ok (.iconst 4, 1) := by decide +kernel
theorem k177_69 : decode (mB 177) 69 = .ok (.if_icmp .ne 7, 3) := by decide +kernel
theorem k177_72 : decode (mB 177) 72 = .ok (.iconst 1, 1) := by decide +kernel
theorem k177_73 : decode (mB 177) 73 = .ok (.goto 4, 3) := by decide +kernel
theorem k177_76 : decode (mB 177) 76 = .ok (.iconst 0, 1) := by decide +kernel
theorem k177_77 : decode (mB 177) 77 = .ok (.iconst 1, 1) := by decide +kernel
theorem k177_78 : decode (mB 177) 78 = .ok (.invokevirtual 117, 3) ∧ tVn (mO 177) 117 = some 2 ∧ tV (mO 177) 117 11 = some 172 := by decide +kernel
theorem k177_81 : decode (mB 177) 81 = .ok (.pop, 1) := by decide +kernel
theorem k177_82 : decode (mB 177) 82 = .ok (.aload_n 0, 1) := by decide +kernel
theorem k177_83 : decode (mB 177) 83 = .ok (.invokevirtual 107, 3) ∧ tVn (mO 177) 107 = some 0 ∧ tV (mO 177) 107 11 = some 171 := by decide +kernel
theorem k177_86 : decode (mB 177) 86 = .ok (.ifCond .eq 29, 3) := by decide +kernel
theorem k177_89 : decode (mB 177) 89 = .ok (.aload_n 0, 1) := by decide +kernel
theorem k177_90 : decode (mB 177) 90 = .ok (.getfield 28, 3) ∧ tF (mO 177) 28 = some (11, 14, 1, 1) := by decide +kernel
theorem k177_93 : decode (mB 177) 93 = .ok (.iload_n 1, 1) := by decide +kernel
theorem k177_94 : decode (mB 177) 94 = .ok (.iload_n 2, 1) := by decide +kernel
theorem k177_95 : decode (mB 177) 95 = .ok (.iastore, 1) := by decide +kernel
theorem k177_96 : decode (mB 177) 96 = .ok (.aload_n 0, 1) := by decide +kernel
theorem k177_97 : decode (mB 177) 97 = .ok (.getfield 28, 3) ∧ tF (mO 177) 28 = some (11, 14, 1, 1) := by decide +kernel
theorem k177_100 : decode (mB 177) 100 = .ok (.iload_n 1, 1) := by decide +kernel
theorem k177_101 : decode (mB 177) 101 = .ok (.iconst 1, 1) := by decide +kernel
theorem k177_102 : decode (mB 177) 102 = .ok (.iadd, 1) := by decide +kernel
theorem k177_103 : decode (mB 177) 103 = .ok (.iload_n 3, 1) := by decide +kernel
theorem k177_104 : decode (mB 177) 104 = .ok (.iastore, 1) := by decide +kernel
theorem k177_105 : decode (mB 177) 105 = .ok (.aload_n 0, 1) := by decide +kernel
theorem k177_106 : decode (mB 177) 106 = .ok (.getfield 28, 3) ∧ tF (mO 177) 28 = some (11, 14, 1, 1) := by decide +kernel
theorem k177_109 : decode (mB 177) 109 = .ok (.iconst 2, 1) := by decide +kernel
theorem k177_110 : decode (mB 177) 110 = .ok (.dup2, 1) := by decide +kernel
theorem k177_111 : decode (mB 177) 111 = .ok (.iaload, 1) := by decide +kernel
theorem k177_112 : decode (mB 177) 112 = .ok (.iconst 1, 1) := by decide +kernel
theorem k177_113 : decode (mB 177) 113 = .ok (.iadd, 1) := by decide +kernel
theorem k177_114 : decode (mB 177) 114 = .ok (.iastore, 1) := by decide +kernel
theorem k177_115 : decode (mB 177) 115 = .ok (.return_, 1) ∧ mR 177 = none := by decide +kernel
-- 178: ChairPastModel.must:(Z)V, locals 2
theorem l178 : mL 178 = 2 := by decide +kernel
theorem k178_0 : decode (mB 178) 0 = .ok (.aload_n 0, 1) := by decide +kernel
theorem k178_1 : decode (mB 178) 1 = .ok (.invokevirtual 107, 3) ∧ tVn (mO 178) 107 = some 0 ∧ tV (mO 178) 107 11 = some 171 := by decide +kernel
theorem k178_4 : decode (mB 178) 4 = .ok (.ifCond .eq 14, 3) := by decide +kernel
theorem k178_7 : decode (mB 178) 7 = .ok (.iload_n 1, 1) := by decide +kernel
theorem k178_8 : decode (mB 178) 8 = .ok (.ifCond .ne 10, 3) := by decide +kernel
theorem k178_11 : decode (mB 178) 11 = .ok (.aload_n 0, 1) := by decide +kernel
theorem k178_12 : decode (mB 178) 12 = .ok (.iconst 0, 1) := by decide +kernel
theorem k178_13 : decode (mB 178) 13 = .ok (.iconst 1, 1) := by decide +kernel
theorem k178_14 : decode (mB 178) 14 = .ok (.invokevirtual 117, 3) ∧ tVn (mO 178) 117 = some 2 ∧ tV (mO 178) 117 11 = some 172 := by decide +kernel
theorem k178_17 : decode (mB 178) 17 = .ok (.pop, 1) := by decide +kernel
theorem k178_18 : decode (mB 178) 18 = .ok (.return_, 1) ∧ mR 178 = none := by decide +kernel
-- 179: ChairPastModel.room:()I, locals 2
theorem l179 : mL 179 = 2 := by decide +kernel
theorem k179_0 : decode (mB 179) 0 = .ok (.iconst 0, 1) := by decide +kernel
theorem k179_1 : decode (mB 179) 1 = .ok (.istore_n 1, 1) := by decide +kernel
theorem k179_2 : decode (mB 179) 2 = .ok (.iload_n 1, 1) := by decide +kernel
theorem k179_3 : decode (mB 179) 3 = .ok (.bipush 48, 2) := by decide +kernel
theorem k179_5 : decode (mB 179) 5 = .ok (.if_icmp .ge 16, 3) := by decide +kernel
theorem k179_8 : decode (mB 179) 8 = .ok (.aload_n 0, 1) := by decide +kernel
theorem k179_9 : decode (mB 179) 9 = .ok (.getfield 28, 3) ∧ tF (mO 179) 28 = some (11, 14, 1, 1) := by decide +kernel
theorem k179_12 : decode (mB 179) 12 = .ok (.iload_n 1, 1) := by decide +kernel
theorem k179_13 : decode (mB 179) 13 = .ok (.iconst 0, 1) := by decide +kernel
theorem k179_14 : decode (mB 179) 14 = .ok (.iastore, 1) := by decide +kernel
theorem k179_15 : decode (mB 179) 15 = .ok (.iinc 1 1, 3) := by decide +kernel
theorem k179_18 : decode (mB 179) 18 = .ok (.goto (-16), 3) := by decide +kernel
theorem k179_21 : decode (mB 179) 21 = .ok (.aload_n 0, 1) := by decide +kernel
theorem k179_22 : decode (mB 179) 22 = .ok (.iconst 0, 1) := by decide +kernel
theorem k179_23 : decode (mB 179) 23 = .ok (.putfield 89, 3) ∧ tF (mO 179) 89 = some (11, 9, 0, 0) := by decide +kernel
theorem k179_26 : decode (mB 179) 26 = .ok (.aload_n 0, 1) := by decide +kernel
theorem k179_27 : decode (mB 179) 27 = .ok (.iconst (-1), 1) := by decide +kernel
theorem k179_28 : decode (mB 179) 28 = .ok (.putfield 104, 3) ∧ tF (mO 179) 104 = some (11, 8, 0, 0) := by decide +kernel
theorem k179_31 : decode (mB 179) 31 = .ok (.aload_n 0, 1) := by decide +kernel
theorem k179_32 : decode (mB 179) 32 = .ok (.invokevirtual 114, 3) ∧ tVn (mO 179) 114 = some 0 ∧ tV (mO 179) 114 11 = some 170 := by decide +kernel
theorem k179_35 : decode (mB 179) 35 = .ok (.aload_n 0, 1) := by decide +kernel
theorem k179_36 : decode (mB 179) 36 = .ok (.aload_n 0, 1) := by decide +kernel
theorem k179_37 : decode (mB 179) 37 = .ok (.getfield 101, 3) ∧ tF (mO 179) 101 = some (11, 11, 0, 0) := by decide +kernel
theorem k179_40 : decode (mB 179) 40 = .ok (.iconst 1, 1) := by decide +kernel
theorem k179_41 : decode (mB 179) 41 = .ok (.if_icmp .ne 16, 3) := by decide +kernel
theorem k179_44 : decode (mB 179) 44 = .ok (.aload_n 0, 1) := by decide +kernel
theorem k179_45 : decode (mB 179) 45 = .ok (.getfield 98, 3) ∧ tF (mO 179) 98 = some (11, 12, 0, 0) := by decide +kernel
theorem k179_48 : decode (mB 179) 48 = .ok (.bipush 97, 2) := by decide +kernel
theorem k179_50 : decode (mB 179) 50 = .ok (.if_icmp .ne 7, 3) := by decide +kernel
theorem k179_53 : decode (mB 179) 53 = .ok (.iconst 1, 1) := by decide +kernel
theorem k179_54 : decode (mB 179) 54 = .ok (.goto 4, 3) := by decide +kernel
theorem k179_57 : decode (mB 179) 57 = .ok (.iconst 0, 1) := by decide +kernel
theorem k179_58 : decode (mB 179) 58 = .ok (.iconst 1, 1) := by decide +kernel
theorem k179_59 : decode (mB 179) 59 = .ok (.invokevirtual 117, 3) ∧ tVn (mO 179) 117 = some 2 ∧ tV (mO 179) 117 11 = some 172 := by decide +kernel
theorem k179_62 : decode (mB 179) 62 = .ok (.pop, 1) := by decide +kernel
theorem k179_63 : decode (mB 179) 63 = .ok (.aload_n 0, 1) := by decide +kernel
theorem k179_64 : decode (mB 179) 64 = .ok (.getfield 28, 3) ∧ tF (mO 179) 28 = some (11, 14, 1, 1) := by decide +kernel
theorem k179_67 : decode (mB 179) 67 = .ok (.iconst 0, 1) := by decide +kernel
theorem k179_68 : decode (mB 179) 68 = .ok (.aload_n 0, 1) := by decide +kernel
theorem k179_69 : decode (mB 179) 69 = .ok (.iconst 0, 1) := by decide +kernel
theorem k179_70 : decode (mB 179) 70 = .ok (.bipush 9, 2) := by decide +kernel
theorem k179_72 : decode (mB 179) 72 = .ok (.invokevirtual 121, 3) ∧ tVn (mO 179) 121 = some 2 ∧ tV (mO 179) 121 11 = some 173 := by decide +kernel
theorem k179_75 : decode (mB 179) 75 = .ok (.iastore, 1) := by decide +kernel
theorem k179_76 : decode (mB 179) 76 = .ok (.aload_n 0, 1) := by decide +kernel
theorem k179_77 : decode (mB 179) 77 = .ok (.aload_n 0, 1) := by decide +kernel
theorem k179_78 : decode (mB 179) 78 = .ok (.getfield 101, 3) ∧ tF (mO 179) 101 = some (11, 11, 0, 0) := by decide +kernel
theorem k179_81 : decode (mB 179) 81 = .ok (.iconst 4, 1) := by decide +kernel
theorem k179_82 : decode (mB 179) 82 = .ok (.if_icmp .ne 7, 3) := by decide +kernel
theorem k179_85 : decode (mB 179) 85 = .ok (.iconst 1, 1) := by decide +kernel
theorem k179_86 : decode (mB 179) 86 = .ok (.goto 4, 3) := by decide +kernel
theorem k179_89 : decode (mB 179) 89 = .ok (.iconst 0, 1) := by decide +kernel
theorem k179_90 : decode (mB 179) 90 = .ok (.iconst 1, 1) := by decide +kernel
theorem k179_91 : decode (mB 179) 91 = .ok (.invokevirtual 117, 3) ∧ tVn (mO 179) 117 = some 2 ∧ tV (mO 179) 117 11 = some 172 := by decide +kernel
theorem k179_94 : decode (mB 179) 94 = .ok (.pop, 1) := by decide +kernel
theorem k179_95 : decode (mB 179) 95 = .ok (.aload_n 0, 1) := by decide +kernel
theorem k179_96 : decode (mB 179) 96 = .ok (.aload_n 0, 1) := by decide +kernel
theorem k179_97 : decode (mB 179) 97 = .ok (.getfield 101, 3) ∧ tF (mO 179) 101 = some (11, 11, 0, 0) := by decide +kernel
theorem k179_100 : decode (mB 179) 100 = .ok (.iconst 1, 1) := by decide +kernel
theorem k179_101 : decode (mB 179) 101 = .ok (.if_icmp .ne 17, 3) := by decide +kernel
theorem k179_104 : decode (mB 179) 104 = .ok (.aload_n 0, 1) := by decide +kernel
theorem k179_105 : decode (mB 179) 105 = .ok (.getfield 98, 3) ∧ tF (mO 179) 98 = some (11, 12, 0, 0) := by decide +kernel
theorem k179_108 : decode (mB 179) 108 = .ok (.invokestatic 124, 3) ∧ tM (mO 179) 124 = none ∧ tS (mO 179) 124 = some 174 := by decide +kernel
theorem k179_111 : decode (mB 179) 111 = .ok (.ifCond .le 7, 3) := by decide +kernel
theorem k179_114 : decode (mB 179) 114 = .ok (.iconst 1, 1) := by decide +kernel
theorem k179_115 : decode (mB 179) 115 = .ok (.goto 4, 3) := by decide +kernel
theorem k179_118 : decode (mB 179) 118 = .ok (.iconst 0, 1) := by decide +kernel
theorem k179_119 : decode (mB 179) 119 = .ok (.invokevirtual 130, 3) ∧ tVn (mO 179) 130 = some 1 ∧ tV (mO 179) 130 11 = some 178 := by decide +kernel
theorem k179_122 : decode (mB 179) 122 = .ok (.aload_n 0, 1) := by decide +kernel
theorem k179_123 : decode (mB 179) 123 = .ok (.invokevirtual 107, 3) ∧ tVn (mO 179) 107 = some 0 ∧ tV (mO 179) 107 11 = some 171 := by decide +kernel
theorem k179_126 : decode (mB 179) 126 = .ok (.ifCond .eq 28, 3) := by decide +kernel
theorem k179_129 : decode (mB 179) 129 = .ok (.aload_n 0, 1) := by decide +kernel
theorem k179_130 : decode (mB 179) 130 = .ok (.getfield 101, 3) ∧ tF (mO 179) 101 = some (11, 11, 0, 0) := by decide +kernel
theorem k179_133 : decode (mB 179) 133 = .ok (.iconst 1, 1) := by decide +kernel
theorem k179_134 : decode (mB 179) 134 = .ok (.if_icmp .ne 20, 3) := by decide +kernel
theorem k179_137 : decode (mB 179) 137 = .ok (.aload_n 0, 1) := by decide +kernel
theorem k179_138 : decode (mB 179) 138 = .ok (.getfield 98, 3) ∧ tF (mO 179) 98 = some (11, 12, 0, 0) := by decide +kernel
theorem k179_141 : decode (mB 179) 141 = .ok (.invokestatic 124, 3) ∧ tM (mO 179) 124 = none ∧ tS (mO 179) 124 = some 174 := by decide +kernel
theorem k179_144 : decode (mB 179) 144 = .ok (.ifCond .le 10, 3) := by decide +kernel
theorem k179_147 : decode (mB 179) 147 = .ok (.aload_n 0, 1) := by decide +kernel
theorem k179_148 : decode (mB 179) 148 = .ok (.invokevirtual 134, 3) ∧ tVn (mO 179) 134 = some 0 ∧ tV (mO 179) 134 11 = some 176 := by decide +kernel
theorem k179_151 : decode (mB 179) 151 = .ok (.goto (-29), 3) := by decide +kernel
theorem k179_154 : decode (mB 179) 154 = .ok (.aload_n 0, 1) := by decide +kernel
theorem k179_155 : decode (mB 179) 155 = .ok (.invokevirtual 107, 3) ∧ tVn (mO 179) 107 = some 0 ∧ tV (mO 179) 107 11 = some 171 := by decide +kernel
theorem k179_158 : decode (mB 179) 158 = .ok (.ifCond .eq 27, 3) := by decide +kernel
theorem k179_161 : decode (mB 179) 161 = .ok (.aload_n 0, 1) := by decide +kernel
theorem k179_162 : decode (mB 179) 162 = .ok (.getfield 101, 3) ∧ tF (mO 179) 101 = some (11, 11, 0, 0) := by decide +kernel
theorem k179_165 : decode (mB 179) 165 = .ok (.iconst 1, 1) := by decide +kernel
theorem k179_166 : decode (mB 179) 166 = .ok (.if_icmp .ne 19, 3) := by decide +kernel
theorem k179_169 : decode (mB 179) 169 = .ok (.aload_n 0, 1) := by decide +kernel
theorem k179_170 : decode (mB 179) 170 = .ok (.getfield 98, 3) ∧ tF (mO 179) 98 = some (11, 12, 0, 0) := by decide +kernel
theorem k179_173 : decode (mB 179) 173 = .ok (.bipush 122, 2) := by decide +kernel
theorem k179_175 : decode (mB 179) 175 = .ok (.if_icmp .ne 10, 3) := by decide +kernel
theorem k179_178 : decode (mB 179) 178 = .ok (.aload_n 0, 1) := by decide +kernel
theorem k179_179 : decode (mB 179) 179 = .ok (.invokevirtual 137, 3) ∧ tVn (mO 179) 137 = some 0 ∧ tV (mO 179) 137 11 = some 177 := by decide +kernel
theorem k179_182 : decode (mB 179) 182 = .ok (.goto (-28), 3) := by decide +kernel
theorem k179_185 : decode (mB 179) 185 = .ok (.aload_n 0, 1) := by decide +kernel
theorem k179_186 : decode (mB 179) 186 = .ok (.aload_n 0, 1) := by decide +kernel
theorem k179_187 : decode (mB 179) 187 = .ok (.getfield 101, 3) ∧ tF (mO 179) 101 = some (11, 11, 0, 0) := by decide +kernel
theorem k179_190 : decode (mB 179) 190 = .ok (.ifCond .ne 7, 3) := by decide +kernel
theorem k179_193 : decode (mB 179) 193 = .ok (.iconst 1, 1) := by decide +kernel
theorem k179_194 : decode (mB 179) 194 = .ok (.goto 4, 3) := by decide +kernel
theorem k179_197 : decode (mB 179) 197 = .ok (.iconst 0, 1) := by decide +kernel
theorem k179_198 : decode (mB 179) 198 = .ok (.invokevirtual 130, 3) ∧ tVn (mO 179) 130 = some 1 ∧ tV (mO 179) 130 11 = some 178 := by decide +kernel
theorem k179_201 : decode (mB 179) 201 = .ok (.aload_n 0, 1) := by decide +kernel
theorem k179_202 : decode (mB 179) 202 = .ok (.iconst 0, 1) := by decide +kernel
theorem k179_203 : decode (mB 179) 203 = .ok (.putfield 85, 3) ∧ tF (mO 179) 85 = some (11, 6, 0, 0) := by decide +kernel
theorem k179_206 : decode (mB 179) 206 = .ok (.aload_n 0, 1) := by decide +kernel
theorem k179_207 : decode (mB 179) 207 = .ok (.invokevirtual 107, 3) ∧ tVn (mO 179) 107 = some 0 ∧ tV (mO 179) 107 11 = some 171 := by decide +kernel
theorem k179_210 : decode (mB 179) 210 = .ok (.ifCond .ne 11, 3) := by decide +kernel
theorem k179_213 : decode (mB 179) 213 = .ok (.ldc 140, 2) ∧ tK (mO 179) 140 = some (-1000100) := by decide +kernel
theorem k179_215 : decode (mB 179) 215 = .ok (.aload_n 0, 1) := by decide +kernel
theorem k179_216 : decode (mB 179) 216 = .ok (.getfield 104, 3) ∧ tF (mO 179) 104 = some (11, 8, 0, 0) := by decide +kernel
theorem k179_219 : decode (mB 179) 219 = .ok (.isub, 1) := by decide +kernel
theorem k179_220 : decode (mB 179) 220 = .ok (.ireturn, 1) ∧ mR 179 = (some .int) := by decide +kernel
theorem k179_221 : decode (mB 179) 221 = .ok (.aload_n 0, 1) := by decide +kernel
theorem k179_222 : decode (mB 179) 222 = .ok (.getfield 28, 3) ∧ tF (mO 179) 28 = some (11, 14, 1, 1) := by decide +kernel
theorem k179_225 : decode (mB 179) 225 = .ok (.iconst 0, 1) := by decide +kernel
theorem k179_226 : decode (mB 179) 226 = .ok (.aload_n 0, 1) := by decide +kernel
theorem k179_227 : decode (mB 179) 227 = .ok (.getfield 25, 3) ∧ tF (mO 179) 25 = some (11, 13, 1, 1) := by decide +kernel
theorem k179_230 : decode (mB 179) 230 = .ok (.iconst 0, 1) := by decide +kernel
theorem k179_231 : decode (mB 179) 231 = .ok (.invokestatic 141, 3) ∧ tM (mO 179) 141 = none ∧ tS (mO 179) 141 = some 159 := by decide +kernel
theorem k179_234 : decode (mB 179) 234 = .ok (.aload_n 0, 1) := by decide +kernel
theorem k179_235 : decode (mB 179) 235 = .ok (.iconst 0, 1) := by decide +kernel
theorem k179_236 : decode (mB 179) 236 = .ok (.putfield 145, 3) ∧ tF (mO 179) 145 = some (11, 17, 0, 0) := by decide +kernel
theorem k179_239 : decode (mB 179) 239 = .ok (.aload_n 0, 1) := by decide +kernel
theorem k179_240 : decode (mB 179) 240 = .ok (.getfield 25, 3) ∧ tF (mO 179) 25 = some (11, 13, 1, 1) := by decide +kernel
theorem k179_243 : decode (mB 179) 243 = .ok (.iconst 1, 1) := by decide +kernel
theorem k179_244 : decode (mB 179) 244 = .ok (.iaload, 1) := by decide +kernel
theorem k179_245 : decode (mB 179) 245 = .ok (.ireturn, 1) ∧ mR 179 = (some .int) := by decide +kernel
-- 180: ChairPastModel.fault:()I, locals 1
theorem l180 : mL 180 = 1 := by decide +kernel
theorem k180_0 : decode (mB 180) 0 = .ok (.aload_n 0, 1) := by decide +kernel
theorem k180_1 : decode (mB 180) 1 = .ok (.getfield 111, 3) ∧ tF (mO 180) 111 = some (11, 7, 0, 0) := by decide +kernel
theorem k180_4 : decode (mB 180) 4 = .ok (.ireturn, 1) ∧ mR 180 = (some .int) := by decide +kernel
-- 181: ChairPastModel.isRoom:()Z, locals 1
theorem l181 : mL 181 = 1 := by decide +kernel
theorem k181_0 : decode (mB 181) 0 = .ok (.aload_n 0, 1) := by decide +kernel
theorem k181_1 : decode (mB 181) 1 = .ok (.getfield 25, 3) ∧ tF (mO 181) 25 = some (11, 13, 1, 1) := by decide +kernel
theorem k181_4 : decode (mB 181) 4 = .ok (.iconst 1, 1) := by decide +kernel
theorem k181_5 : decode (mB 181) 5 = .ok (.iaload, 1) := by decide +kernel
theorem k181_6 : decode (mB 181) 6 = .ok (.ifCond .le 7, 3) := by decide +kernel
theorem k181_9 : decode (mB 181) 9 = .ok (.iconst 1, 1) := by decide +kernel
theorem k181_10 : decode (mB 181) 10 = .ok (.goto 4, 3) := by decide +kernel
theorem k181_13 : decode (mB 181) 13 = .ok (.iconst 0, 1) := by decide +kernel
theorem k181_14 : decode (mB 181) 14 = .ok (.ireturn, 1) ∧ mR 181 = (some .boolean) := by decide +kernel
-- 182: ChairPastModel.isChair:(I)Z, locals 2
theorem l182 : mL 182 = 2 := by decide +kernel
theorem k182_0 : decode (mB 182) 0 = .ok (.iload_n 1, 1) := by decide +kernel
theorem k182_1 : decode (mB 182) 1 = .ok (.iconst 0, 1) := by decide +kernel
theorem k182_2 : decode (mB 182) 2 = .ok (.aload_n 0, 1) := by decide +kernel
theorem k182_3 : decode (mB 182) 3 = .ok (.getfield 25, 3) ∧ tF (mO 182) 25 = some (11, 13, 1, 1) := by decide +kernel
theorem k182_6 : decode (mB 182) 6 = .ok (.iconst 1, 1) := by decide +kernel
theorem k182_7 : decode (mB 182) 7 = .ok (.iaload, 1) := by decide +kernel
theorem k182_8 : decode (mB 182) 8 = .ok (.iconst 1, 1) := by decide +kernel
theorem k182_9 : decode (mB 182) 9 = .ok (.isub, 1) := by decide +kernel
theorem k182_10 : decode (mB 182) 10 = .ok (.invokestatic 59, 3) ∧ tM (mO 182) 59 = none ∧ tS (mO 182) 59 = some 155 := by decide +kernel
theorem k182_13 : decode (mB 182) 13 = .ok (.ireturn, 1) ∧ mR 182 = (some .boolean) := by decide +kernel
-- 183: ChairPastModel.isGuest:(I)Z, locals 2
theorem l183 : mL 183 = 2 := by decide +kernel
theorem k183_0 : decode (mB 183) 0 = .ok (.iload_n 1, 1) := by decide +kernel
theorem k183_1 : decode (mB 183) 1 = .ok (.iconst 0, 1) := by decide +kernel
theorem k183_2 : decode (mB 183) 2 = .ok (.aload_n 0, 1) := by decide +kernel
theorem k183_3 : decode (mB 183) 3 = .ok (.getfield 25, 3) ∧ tF (mO 183) 25 = some (11, 13, 1, 1) := by decide +kernel
theorem k183_6 : decode (mB 183) 6 = .ok (.iconst 2, 1) := by decide +kernel
theorem k183_7 : decode (mB 183) 7 = .ok (.iaload, 1) := by decide +kernel
theorem k183_8 : decode (mB 183) 8 = .ok (.iconst 1, 1) := by decide +kernel
theorem k183_9 : decode (mB 183) 9 = .ok (.isub, 1) := by decide +kernel
theorem k183_10 : decode (mB 183) 10 = .ok (.invokestatic 59, 3) ∧ tM (mO 183) 59 = none ∧ tS (mO 183) 59 = some 155 := by decide +kernel
theorem k183_13 : decode (mB 183) 13 = .ok (.ireturn, 1) ∧ mR 183 = (some .boolean) := by decide +kernel
-- 184: ChairPastModel.mixed:(III)I, locals 3
theorem l184 : mL 184 = 3 := by decide +kernel
theorem k184_0 : decode (mB 184) 0 = .ok (.iload_n 0, 1) := by decide +kernel
theorem k184_1 : decode (mB 184) 1 = .ok (.iload_n 1, 1) := by decide +kernel
theorem k184_2 : decode (mB 184) 2 = .ok (.imul, 1) := by decide +kernel
theorem k184_3 : decode (mB 184) 3 = .ok (.iload_n 2, 1) := by decide +kernel
theorem k184_4 : decode (mB 184) 4 = .ok (.bipush 16, 2) := by decide +kernel
theorem k184_6 : decode (mB 184) 6 = .ok (.iload_n 1, 1) := by decide +kernel
theorem k184_7 : decode (mB 184) 7 = .ok (.isub, 1) := by decide +kernel
theorem k184_8 : decode (mB 184) 8 = .ok (.imul, 1) := by decide +kernel
theorem k184_9 : decode (mB 184) 9 = .ok (.iadd, 1) := by decide +kernel
theorem k184_10 : decode (mB 184) 10 = .ok (.bipush 16, 2) := by decide +kernel
theorem k184_12 : decode (mB 184) 12 = .ok (.idiv, 1) := by decide +kernel
theorem k184_13 : decode (mB 184) 13 = .ok (.ireturn, 1) ∧ mR 184 = (some .int) := by decide +kernel
-- 185: ChairPastModel.bearing:([III)I, locals 5
theorem l185 : mL 185 = 5 := by decide +kernel
theorem k185_0 : decode (mB 185) 0 = .ok (.iconst 3, 1) := by decide +kernel
theorem k185_1 : decode (mB 185) 1 = .ok (.iconst 5, 1) := by decide +kernel
theorem k185_2 : decode (mB 185) 2 = .ok (.iload_n 1, 1) := by decide +kernel
theorem k185_3 : decode (mB 185) 3 = .ok (.imul, 1) := by decide +kernel
theorem k185_4 : decode (mB 185) 4 = .ok (.iadd, 1) := by decide +kernel
theorem k185_5 : decode (mB 185) 5 = .ok (.istore_n 3, 1) := by decide +kernel
theorem k185_6 : decode (mB 185) 6 = .ok (.aload_n 0, 1) := by decide +kernel
theorem k185_7 : decode (mB 185) 7 = .ok (.iload_n 3, 1) := by decide +kernel
theorem k185_8 : decode (mB 185) 8 = .ok (.iconst 2, 1) := by decide +kernel
theorem k185_9 : decode (mB 185) 9 = .ok (.iadd, 1) := by decide +kernel
theorem k185_10 : decode (mB 185) 10 = .ok (.iaload, 1) := by decide +kernel
theorem k185_11 : decode (mB 185) 11 = .ok (.ifCond .ne 7, 3) := by decide +kernel
theorem k185_14 : decode (mB 185) 14 = .ok (.iload_n 2, 1) := by decide +kernel
theorem k185_15 : decode (mB 185) 15 = .ok (.goto 8, 3) := by decide +kernel
theorem k185_18 : decode (mB 185) 18 = .ok (.aload_n 0, 1) := by decide +kernel
theorem k185_19 : decode (mB 185) 19 = .ok (.iload_n 3, 1) := by decide +kernel
theorem k185_20 : decode (mB 185) 20 = .ok (.iconst 1, 1) := by decide +kernel
theorem k185_21 : decode (mB 185) 21 = .ok (.iadd, 1) := by decide +kernel
theorem k185_22 : decode (mB 185) 22 = .ok (.iaload, 1) := by decide +kernel
theorem k185_23 : decode (mB 185) 23 = .ok (.istore 4, 2) := by decide +kernel
theorem k185_25 : decode (mB 185) 25 = .ok (.aload_n 0, 1) := by decide +kernel
theorem k185_26 : decode (mB 185) 26 = .ok (.iload_n 3, 1) := by decide +kernel
theorem k185_27 : decode (mB 185) 27 = .ok (.iaload, 1) := by decide +kernel
theorem k185_28 : decode (mB 185) 28 = .ok (.tableswitch 99 1 4 #[32, 47, 76, 96], 32) := by decide +kernel
theorem k185_60 : decode (mB 185) 60 = .ok (.aload_n 0, 1) := by decide +kernel
theorem k185_61 : decode (mB 185) 61 = .ok (.iload_n 3, 1) := by decide +kernel
theorem k185_62 : decode (mB 185) 62 = .ok (.iconst 1, 1) := by decide +kernel
theorem k185_63 : decode (mB 185) 63 = .ok (.iadd, 1) := by decide +kernel
theorem k185_64 : decode (mB 185) 64 = .ok (.iaload, 1) := by decide +kernel
theorem k185_65 : decode (mB 185) 65 = .ok (.aload_n 0, 1) := by decide +kernel
theorem k185_66 : decode (mB 185) 66 = .ok (.iload_n 3, 1) := by decide +kernel
theorem k185_67 : decode (mB 185) 67 = .ok (.iconst 2, 1) := by decide +kernel
theorem k185_68 : decode (mB 185) 68 = .ok (.iadd, 1) := by decide +kernel
theorem k185_69 : decode (mB 185) 69 = .ok (.iaload, 1) := by decide +kernel
theorem k185_70 : decode (mB 185) 70 = .ok (.iload_n 2, 1) := by decide +kernel
theorem k185_71 : decode (mB 185) 71 = .ok (.invokestatic 148, 3) ∧ tM (mO 185) 148 = none ∧ tS (mO 185) 148 = some 184 := by decide +kernel
theorem k185_74 : decode (mB 185) 74 = .ok (.ireturn, 1) ∧ mR 185 = (some .int) := by decide +kernel
theorem k185_75 : decode (mB 185) 75 = .ok (.aload_n 0, 1) := by decide +kernel
theorem k185_76 : decode (mB 185) 76 = .ok (.iload_n 3, 1) := by decide +kernel
theorem k185_77 : decode (mB 185) 77 = .ok (.iconst 4, 1) := by decide +kernel
theorem k185_78 : decode (mB 185) 78 = .ok (.iadd, 1) := by decide +kernel
theorem k185_79 : decode (mB 185) 79 = .ok (.iaload, 1) := by decide +kernel
theorem k185_80 : decode (mB 185) 80 = .ok (.iconst 2, 1) := by decide +kernel
theorem k185_81 : decode (mB 185) 81 = .ok (.irem, 1) := by decide +kernel
theorem k185_82 : decode (mB 185) 82 = .ok (.ifCond .ne 20, 3) := by decide +kernel
theorem k185_85 : decode (mB 185) 85 = .ok (.aload_n 0, 1) := by decide +kernel
theorem k185_86 : decode (mB 185) 86 = .ok (.iload_n 3, 1) := by decide +kernel
theorem k185_87 : decode (mB 185) 87 = .ok (.iconst 1, 1) := by decide +kernel
theorem k185_88 : decode (mB 185) 88 = .ok (.iadd, 1) := by decide +kernel
theorem k185_89 : decode (mB 185) 89 = .ok (.iaload, 1) := by decide +kernel
theorem k185_90 : decode (mB 185) 90 = .ok (.aload_n 0, 1) := by decide +kernel
theorem k185_91 : decode (mB 185) 91 = .ok (.iload_n 3, 1) := by decide +kernel
theorem k185_92 : decode (mB 185) 92 = .ok (.iconst 2, 1) := by decide +kernel
theorem k185_93 : decode (mB 185) 93 = .ok (.iadd, 1) := by decide +kernel
theorem k185_94 : decode (mB 185) 94 = .ok (.iaload, 1) := by decide +kernel
theorem k185_95 : decode (mB 185) 95 = .ok (.iload_n 2, 1) := by decide +kernel
theorem k185_96 : decode (mB 185) 96 = .ok (.invokestatic 148, 3) ∧ tM (mO 185) 148 = none ∧ tS (mO 185) 148 = some 184 := by decide +kernel
theorem k185_99 : decode (mB 185) 99 = .ok (.goto 4, 3) := by decide +kernel
theorem k185_102 : decode (mB 185) 102 = .ok (.iload_n 2, 1) := by decide +kernel
theorem k185_103 : decode (mB 185) 103 = .ok (.ireturn, 1) ∧ mR 185 = (some .int) := by decide +kernel
theorem k185_104 : decode (mB 185) 104 = .ok (.aload_n 0, 1) := by decide +kernel
theorem k185_105 : decode (mB 185) 105 = .ok (.iload_n 3, 1) := by decide +kernel
theorem k185_106 : decode (mB 185) 106 = .ok (.iconst 1, 1) := by decide +kernel
theorem k185_107 : decode (mB 185) 107 = .ok (.iadd, 1) := by decide +kernel
theorem k185_108 : decode (mB 185) 108 = .ok (.iaload, 1) := by decide +kernel
theorem k185_109 : decode (mB 185) 109 = .ok (.iconst 1, 1) := by decide +kernel
theorem k185_110 : decode (mB 185) 110 = .ok (.iadd, 1) := by decide +kernel
theorem k185_111 : decode (mB 185) 111 = .ok (.bipush 10, 2) := by decide +kernel
theorem k185_113 : decode (mB 185) 113 = .ok (.irem, 1) := by decide +kernel
theorem k185_114 : decode (mB 185) 114 = .ok (.aload_n 0, 1) := by decide +kernel
theorem k185_115 : decode (mB 185) 115 = .ok (.iload_n 3, 1) := by decide +kernel
theorem k185_116 : decode (mB 185) 116 = .ok (.iconst 2, 1) := by decide +kernel
theorem k185_117 : decode (mB 185) 117 = .ok (.iadd, 1) := by decide +kernel
theorem k185_118 : decode (mB 185) 118 = .ok (.iaload, 1) := by decide +kernel
theorem k185_119 : decode (mB 185) 119 = .ok (.iload_n 2, 1) := by decide +kernel
theorem k185_120 : decode (mB 185) 120 = .ok (.invokestatic 148, 3) ∧ tM (mO 185) 148 = none ∧ tS (mO 185) 148 = some 184 := by decide +kernel
theorem k185_123 : decode (mB 185) 123 = .ok (.ireturn, 1) ∧ mR 185 = (some .int) := by decide +kernel
theorem k185_124 : decode (mB 185) 124 = .ok (.iload 4, 2) := by decide +kernel
theorem k185_126 : decode (mB 185) 126 = .ok (.ireturn, 1) ∧ mR 185 = (some .int) := by decide +kernel
theorem k185_127 : decode (mB 185) 127 = .ok (.iload 4, 2) := by decide +kernel
theorem k185_129 : decode (mB 185) 129 = .ok (.iconst 5, 1) := by decide +kernel
theorem k185_130 : decode (mB 185) 130 = .ok (.if_icmp .ge 7, 3) := by decide +kernel
theorem k185_133 : decode (mB 185) 133 = .ok (.iconst 5, 1) := by decide +kernel
theorem k185_134 : decode (mB 185) 134 = .ok (.goto 5, 3) := by decide +kernel
theorem k185_137 : decode (mB 185) 137 = .ok (.iload 4, 2) := by decide +kernel
theorem k185_139 : decode (mB 185) 139 = .ok (.ireturn, 1) ∧ mR 185 = (some .int) := by decide +kernel
-- 186: ChairPastModel.sits:([III)I, locals 6
theorem l186 : mL 186 = 6 := by decide +kernel
theorem k186_0 : decode (mB 186) 0 = .ok (.iconst 3, 1) := by decide +kernel
theorem k186_1 : decode (mB 186) 1 = .ok (.iconst 5, 1) := by decide +kernel
theorem k186_2 : decode (mB 186) 2 = .ok (.iload_n 2, 1) := by decide +kernel
theorem k186_3 : decode (mB 186) 3 = .ok (.imul, 1) := by decide +kernel
theorem k186_4 : decode (mB 186) 4 = .ok (.iadd, 1) := by decide +kernel
theorem k186_5 : decode (mB 186) 5 = .ok (.istore_n 3, 1) := by decide +kernel
theorem k186_6 : decode (mB 186) 6 = .ok (.aload_n 0, 1) := by decide +kernel
theorem k186_7 : decode (mB 186) 7 = .ok (.bipush 28, 2) := by decide +kernel
theorem k186_9 : decode (mB 186) 9 = .ok (.iconst 4, 1) := by decide +kernel
theorem k186_10 : decode (mB 186) 10 = .ok (.iload_n 1, 1) := by decide +kernel
theorem k186_11 : decode (mB 186) 11 = .ok (.imul, 1) := by decide +kernel
theorem k186_12 : decode (mB 186) 12 = .ok (.iadd, 1) := by decide +kernel
theorem k186_13 : decode (mB 186) 13 = .ok (.iaload, 1) := by decide +kernel
theorem k186_14 : decode (mB 186) 14 = .ok (.istore 4, 2) := by decide +kernel
theorem k186_16 : decode (mB 186) 16 = .ok (.aload_n 0, 1) := by decide +kernel
theorem k186_17 : decode (mB 186) 17 = .ok (.iload_n 2, 1) := by decide +kernel
theorem k186_18 : decode (mB 186) 18 = .ok (.iload 4, 2) := by decide +kernel
theorem k186_20 : decode (mB 186) 20 = .ok (.invokestatic 152, 3) ∧ tM (mO 186) 152 = none ∧ tS (mO 186) 152 = some 185 := by decide +kernel
theorem k186_23 : decode (mB 186) 23 = .ok (.istore 5, 2) := by decide +kernel
theorem k186_25 : decode (mB 186) 25 = .ok (.aload_n 0, 1) := by decide +kernel
theorem k186_26 : decode (mB 186) 26 = .ok (.iload_n 3, 1) := by decide +kernel
theorem k186_27 : decode (mB 186) 27 = .ok (.iconst 4, 1) := by decide +kernel
theorem k186_28 : decode (mB 186) 28 = .ok (.iadd, 1) := by decide +kernel
theorem k186_29 : decode (mB 186) 29 = .ok (.dup2, 1) := by decide +kernel
theorem k186_30 : decode (mB 186) 30 = .ok (.iaload, 1) := by decide +kernel
theorem k186_31 : decode (mB 186) 31 = .ok (.aload_n 0, 1) := by decide +kernel
theorem k186_32 : decode (mB 186) 32 = .ok (.iload_n 3, 1) := by decide +kernel
theorem k186_33 : decode (mB 186) 33 = .ok (.iconst 4, 1) := by decide +kernel
theorem k186_34 : decode (mB 186) 34 = .ok (.iadd, 1) := by decide +kernel
theorem k186_35 : decode (mB 186) 35 = .ok (.iaload, 1) := by decide +kernel
theorem k186_36 : decode (mB 186) 36 = .ok (.sipush 999, 3) := by decide +kernel
theorem k186_39 : decode (mB 186) 39 = .ok (.if_icmp .ge 7, 3) := by decide +kernel
theorem k186_42 : decode (mB 186) 42 = .ok (.iconst 1, 1) := by decide +kernel
theorem k186_43 : decode (mB 186) 43 = .ok (.goto 4, 3) := by decide +kernel
theorem k186_46 : decode (mB 186) 46 = .ok (.iconst 0, 1) := by decide +kernel
theorem k186_47 : decode (mB 186) 47 = .ok (.iadd, 1) := by decide +kernel
theorem k186_48 : decode (mB 186) 48 = .ok (.iastore, 1) := by decide +kernel
theorem k186_49 : decode (mB 186) 49 = .ok (.aload_n 0, 1) := by decide +kernel
theorem k186_50 : decode (mB 186) 50 = .ok (.iload_n 3, 1) := by decide +kernel
theorem k186_51 : decode (mB 186) 51 = .ok (.iconst 2, 1) := by decide +kernel
theorem k186_52 : decode (mB 186) 52 = .ok (.iadd, 1) := by decide +kernel
theorem k186_53 : decode (mB 186) 53 = .ok (.dup2, 1) := by decide +kernel
theorem k186_54 : decode (mB 186) 54 = .ok (.iaload, 1) := by decide +kernel
theorem k186_55 : decode (mB 186) 55 = .ok (.aload_n 0, 1) := by decide +kernel
theorem k186_56 : decode (mB 186) 56 = .ok (.iload_n 3, 1) := by decide +kernel
theorem k186_57 : decode (mB 186) 57 = .ok (.iaload, 1) := by decide +kernel
theorem k186_58 : decode (mB 186) 58 = .ok (.iconst 4, 1) := by decide +kernel
theorem k186_59 : decode (mB 186) 59 = .ok (.if_icmp .ge 15, 3) := by decide +kernel
theorem k186_62 : decode (mB 186) 62 = .ok (.aload_n 0, 1) := by decide +kernel
theorem k186_63 : decode (mB 186) 63 = .ok (.iload_n 3, 1) := by decide +kernel
theorem k186_64 : decode (mB 186) 64 = .ok (.iconst 2, 1) := by decide +kernel
theorem k186_65 : decode (mB 186) 65 = .ok (.iadd, 1) := by decide +kernel
theorem k186_66 : decode (mB 186) 66 = .ok (.iaload, 1) := by decide +kernel
theorem k186_67 : decode (mB 186) 67 = .ok (.iconst 3, 1) := by decide +kernel
theorem k186_68 : decode (mB 186) 68 = .ok (.iadd, 1) := by decide +kernel
theorem k186_69 : decode (mB 186) 69 = .ok (.iconst 4, 1) := by decide +kernel
theorem k186_70 : decode (mB 186) 70 = .ok (.idiv, 1) := by decide +kernel
theorem k186_71 : decode (mB 186) 71 = .ok (.goto 4, 3) := by decide +kernel
theorem k186_74 : decode (mB 186) 74 = .ok (.iconst 0, 1) := by decide +kernel
theorem k186_75 : decode (mB 186) 75 = .ok (.isub, 1) := by decide +kernel
theorem k186_76 : decode (mB 186) 76 = .ok (.iastore, 1) := by decide +kernel
theorem k186_77 : decode (mB 186) 77 = .ok (.aload_n 0, 1) := by decide +kernel
theorem k186_78 : decode (mB 186) 78 = .ok (.iload_n 3, 1) := by decide +kernel
theorem k186_79 : decode (mB 186) 79 = .ok (.iconst 1, 1) := by decide +kernel
theorem k186_80 : decode (mB 186) 80 = .ok (.iadd, 1) := by decide +kernel
theorem k186_81 : decode (mB 186) 81 = .ok (.aload_n 0, 1) := by decide +kernel
theorem k186_82 : decode (mB 186) 82 = .ok (.iload_n 3, 1) := by decide +kernel
theorem k186_83 : decode (mB 186) 83 = .ok (.iaload, 1) := by decide +kernel
theorem k186_84 : decode (mB 186) 84 = .ok (.iconst 3, 1) := by decide +kernel
theorem k186_85 : decode (mB 186) 85 = .ok (.if_icmp .ne 16, 3) := by decide +kernel
theorem k186_88 : decode (mB 186) 88 = .ok (.aload_n 0, 1) := by decide +kernel
theorem k186_89 : decode (mB 186) 89 = .ok (.iload_n 3, 1) := by decide +kernel
theorem k186_90 : decode (mB 186) 90 = .ok (.iconst 1, 1) := by decide +kernel
theorem k186_91 : decode (mB 186) 91 = .ok (.iadd, 1) := by decide +kernel
theorem k186_92 : decode (mB 186) 92 = .ok (.iaload, 1) := by decide +kernel
theorem k186_93 : decode (mB 186) 93 = .ok (.iconst 1, 1) := by decide +kernel
theorem k186_94 : decode (mB 186) 94 = .ok (.iadd, 1) := by decide +kernel
theorem k186_95 : decode (mB 186) 95 = .ok (.bipush 10, 2) := by decide +kernel
theorem k186_97 : decode (mB 186) 97 = .ok (.irem, 1) := by decide +kernel
theorem k186_98 : decode (mB 186) 98 = .ok (.goto 8, 3) := by decide +kernel
theorem k186_101 : decode (mB 186) 101 = .ok (.aload_n 0, 1) := by decide +kernel
theorem k186_102 : decode (mB 186) 102 = .ok (.iload_n 3, 1) := by decide +kernel
theorem k186_103 : decode (mB 186) 103 = .ok (.iconst 1, 1) := by decide +kernel
theorem k186_104 : decode (mB 186) 104 = .ok (.iadd, 1) := by decide +kernel
theorem k186_105 : decode (mB 186) 105 = .ok (.iaload, 1) := by decide +kernel
theorem k186_106 : decode (mB 186) 106 = .ok (.iastore, 1) := by decide +kernel
theorem k186_107 : decode (mB 186) 107 = .ok (.aload_n 0, 1) := by decide +kernel
theorem k186_108 : decode (mB 186) 108 = .ok (.iload_n 3, 1) := by decide +kernel
theorem k186_109 : decode (mB 186) 109 = .ok (.iconst 2, 1) := by decide +kernel
theorem k186_110 : decode (mB 186) 110 = .ok (.iadd, 1) := by decide +kernel
theorem k186_111 : decode (mB 186) 111 = .ok (.iaload, 1) := by decide +kernel
theorem k186_112 : decode (mB 186) 112 = .ok (.aload_n 0, 1) := by decide +kernel
theorem k186_113 : decode (mB 186) 113 = .ok (.bipush 28, 2) := by decide +kernel
theorem k186_115 : decode (mB 186) 115 = .ok (.iconst 4, 1) := by decide +kernel
theorem k186_116 : decode (mB 186) 116 = .ok (.iload_n 1, 1) := by decide +kernel
theorem k186_117 : decode (mB 186) 117 = .ok (.imul, 1) := by decide +kernel
theorem k186_118 : decode (mB 186) 118 = .ok (.iadd, 1) := by decide +kernel
theorem k186_119 : decode (mB 186) 119 = .ok (.iconst 1, 1) := by decide +kernel
theorem k186_120 : decode (mB 186) 120 = .ok (.iadd, 1) := by decide +kernel
theorem k186_121 : decode (mB 186) 121 = .ok (.iaload, 1) := by decide +kernel
theorem k186_122 : decode (mB 186) 122 = .ok (.if_icmp .ge 17, 3) := by decide +kernel
theorem k186_125 : decode (mB 186) 125 = .ok (.aload_n 0, 1) := by decide +kernel
theorem k186_126 : decode (mB 186) 126 = .ok (.iload_n 3, 1) := by decide +kernel
theorem k186_127 : decode (mB 186) 127 = .ok (.iconst 1, 1) := by decide +kernel
theorem k186_128 : decode (mB 186) 128 = .ok (.iadd, 1) := by decide +kernel
theorem k186_129 : decode (mB 186) 129 = .ok (.iload 4, 2) := by decide +kernel
theorem k186_131 : decode (mB 186) 131 = .ok (.iastore, 1) := by decide +kernel
theorem k186_132 : decode (mB 186) 132 = .ok (.aload_n 0, 1) := by decide +kernel
theorem k186_133 : decode (mB 186) 133 = .ok (.iload_n 3, 1) := by decide +kernel
theorem k186_134 : decode (mB 186) 134 = .ok (.iconst 2, 1) := by decide +kernel
theorem k186_135 : decode (mB 186) 135 = .ok (.iadd, 1) := by decide +kernel
theorem k186_136 : decode (mB 186) 136 = .ok (.bipush 16, 2) := by decide +kernel
theorem k186_138 : decode (mB 186) 138 = .ok (.iastore, 1) := by decide +kernel
theorem k186_139 : decode (mB 186) 139 = .ok (.iload 5, 2) := by decide +kernel
theorem k186_141 : decode (mB 186) 141 = .ok (.ireturn, 1) ∧ mR 186 = (some .int) := by decide +kernel
-- 187: ChairPastModel.sitter:([II)I, locals 3
theorem l187 : mL 187 = 3 := by decide +kernel
theorem k187_0 : decode (mB 187) 0 = .ok (.iconst 0, 1) := by decide +kernel
theorem k187_1 : decode (mB 187) 1 = .ok (.istore_n 2, 1) := by decide +kernel
theorem k187_2 : decode (mB 187) 2 = .ok (.iload_n 2, 1) := by decide +kernel
theorem k187_3 : decode (mB 187) 3 = .ok (.aload_n 0, 1) := by decide +kernel
theorem k187_4 : decode (mB 187) 4 = .ok (.iconst 2, 1) := by decide +kernel
theorem k187_5 : decode (mB 187) 5 = .ok (.iaload, 1) := by decide +kernel
theorem k187_6 : decode (mB 187) 6 = .ok (.if_icmp .ge 27, 3) := by decide +kernel
theorem k187_9 : decode (mB 187) 9 = .ok (.aload_n 0, 1) := by decide +kernel
theorem k187_10 : decode (mB 187) 10 = .ok (.bipush 28, 2) := by decide +kernel
theorem k187_12 : decode (mB 187) 12 = .ok (.iconst 4, 1) := by decide +kernel
theorem k187_13 : decode (mB 187) 13 = .ok (.iload_n 2, 1) := by decide +kernel
theorem k187_14 : decode (mB 187) 14 = .ok (.imul, 1) := by decide +kernel
theorem k187_15 : decode (mB 187) 15 = .ok (.iadd, 1) := by decide +kernel
theorem k187_16 : decode (mB 187) 16 = .ok (.iconst 2, 1) := by decide +kernel
theorem k187_17 : decode (mB 187) 17 = .ok (.iadd, 1) := by decide +kernel
theorem k187_18 : decode (mB 187) 18 = .ok (.iaload, 1) := by decide +kernel
theorem k187_19 : decode (mB 187) 19 = .ok (.iload_n 1, 1) := by decide +kernel
theorem k187_20 : decode (mB 187) 20 = .ok (.iconst 1, 1) := by decide +kernel
theorem k187_21 : decode (mB 187) 21 = .ok (.iadd, 1) := by decide +kernel
theorem k187_22 : decode (mB 187) 22 = .ok (.if_icmp .ne 5, 3) := by decide +kernel
theorem k187_25 : decode (mB 187) 25 = .ok (.iload_n 2, 1) := by decide +kernel
theorem k187_26 : decode (mB 187) 26 = .ok (.ireturn, 1) ∧ mR 187 = (some .int) := by decide +kernel
theorem k187_27 : decode (mB 187) 27 = .ok (.iinc 2 1, 3) := by decide +kernel
theorem k187_30 : decode (mB 187) 30 = .ok (.goto (-28), 3) := by decide +kernel
theorem k187_33 : decode (mB 187) 33 = .ok (.ldc 53, 2) ∧ tK (mO 187) 53 = some (-1000000) := by decide +kernel
theorem k187_35 : decode (mB 187) 35 = .ok (.ireturn, 1) ∧ mR 187 = (some .int) := by decide +kernel
-- 188: ChairPastModel.puts:([III)V, locals 3
theorem l188 : mL 188 = 3 := by decide +kernel
theorem k188_0 : decode (mB 188) 0 = .ok (.aload_n 0, 1) := by decide +kernel
theorem k188_1 : decode (mB 188) 1 = .ok (.bipush 28, 2) := by decide +kernel
theorem k188_3 : decode (mB 188) 3 = .ok (.iconst 4, 1) := by decide +kernel
theorem k188_4 : decode (mB 188) 4 = .ok (.iload_n 1, 1) := by decide +kernel
theorem k188_5 : decode (mB 188) 5 = .ok (.imul, 1) := by decide +kernel
theorem k188_6 : decode (mB 188) 6 = .ok (.iadd, 1) := by decide +kernel
theorem k188_7 : decode (mB 188) 7 = .ok (.iconst 3, 1) := by decide +kernel
theorem k188_8 : decode (mB 188) 8 = .ok (.iadd, 1) := by decide +kernel
theorem k188_9 : decode (mB 188) 9 = .ok (.aload_n 0, 1) := by decide +kernel
theorem k188_10 : decode (mB 188) 10 = .ok (.iload_n 1, 1) := by decide +kernel
theorem k188_11 : decode (mB 188) 11 = .ok (.iload_n 2, 1) := by decide +kernel
theorem k188_12 : decode (mB 188) 12 = .ok (.invokestatic 156, 3) ∧ tM (mO 188) 156 = none ∧ tS (mO 188) 156 = some 186 := by decide +kernel
theorem k188_15 : decode (mB 188) 15 = .ok (.iastore, 1) := by decide +kernel
theorem k188_16 : decode (mB 188) 16 = .ok (.aload_n 0, 1) := by decide +kernel
theorem k188_17 : decode (mB 188) 17 = .ok (.bipush 28, 2) := by decide +kernel
theorem k188_19 : decode (mB 188) 19 = .ok (.iconst 4, 1) := by decide +kernel
theorem k188_20 : decode (mB 188) 20 = .ok (.iload_n 1, 1) := by decide +kernel
theorem k188_21 : decode (mB 188) 21 = .ok (.imul, 1) := by decide +kernel
theorem k188_22 : decode (mB 188) 22 = .ok (.iadd, 1) := by decide +kernel
theorem k188_23 : decode (mB 188) 23 = .ok (.iconst 2, 1) := by decide +kernel
theorem k188_24 : decode (mB 188) 24 = .ok (.iadd, 1) := by decide +kernel
theorem k188_25 : decode (mB 188) 25 = .ok (.iload_n 2, 1) := by decide +kernel
theorem k188_26 : decode (mB 188) 26 = .ok (.iconst 1, 1) := by decide +kernel
theorem k188_27 : decode (mB 188) 27 = .ok (.iadd, 1) := by decide +kernel
theorem k188_28 : decode (mB 188) 28 = .ok (.iastore, 1) := by decide +kernel
theorem k188_29 : decode (mB 188) 29 = .ok (.return_, 1) ∧ mR 188 = none := by decide +kernel
-- 189: ChairPastModel.peaceOf:([I)I, locals 6
theorem l189 : mL 189 = 6 := by decide +kernel
theorem k189_0 : decode (mB 189) 0 = .ok (.iconst 0, 1) := by decide +kernel
theorem k189_1 : decode (mB 189) 1 = .ok (.istore_n 1, 1) := by decide +kernel
theorem k189_2 : decode (mB 189) 2 = .ok (.iconst 0, 1) := by decide +kernel
theorem k189_3 : decode (mB 189) 3 = .ok (.istore_n 2, 1) := by decide +kernel
theorem k189_4 : decode (mB 189) 4 = .ok (.iload_n 2, 1) := by decide +kernel
theorem k189_5 : decode (mB 189) 5 = .ok (.iconst 1, 1) := by decide +kernel
theorem k189_6 : decode (mB 189) 6 = .ok (.iadd, 1) := by decide +kernel
theorem k189_7 : decode (mB 189) 7 = .ok (.aload_n 0, 1) := by decide +kernel
theorem k189_8 : decode (mB 189) 8 = .ok (.iconst 1, 1) := by decide +kernel
theorem k189_9 : decode (mB 189) 9 = .ok (.iaload, 1) := by decide +kernel
theorem k189_10 : decode (mB 189) 10 = .ok (.if_icmp .ge 119, 3) := by decide +kernel
theorem k189_13 : decode (mB 189) 13 = .ok (.aload_n 0, 1) := by decide +kernel
theorem k189_14 : decode (mB 189) 14 = .ok (.iload_n 2, 1) := by decide +kernel
theorem k189_15 : decode (mB 189) 15 = .ok (.invokestatic 159, 3) ∧ tM (mO 189) 159 = none ∧ tS (mO 189) 159 = some 187 := by decide +kernel
theorem k189_18 : decode (mB 189) 18 = .ok (.istore_n 3, 1) := by decide +kernel
theorem k189_19 : decode (mB 189) 19 = .ok (.aload_n 0, 1) := by decide +kernel
theorem k189_20 : decode (mB 189) 20 = .ok (.iload_n 2, 1) := by decide +kernel
theorem k189_21 : decode (mB 189) 21 = .ok (.iconst 1, 1) := by decide +kernel
theorem k189_22 : decode (mB 189) 22 = .ok (.iadd, 1) := by decide +kernel
theorem k189_23 : decode (mB 189) 23 = .ok (.invokestatic 159, 3) ∧ tM (mO 189) 159 = none ∧ tS (mO 189) 159 = some 187 := by decide +kernel
theorem k189_26 : decode (mB 189) 26 = .ok (.istore 4, 2) := by decide +kernel
theorem k189_28 : decode (mB 189) 28 = .ok (.iload_n 3, 1) := by decide +kernel
theorem k189_29 : decode (mB 189) 29 = .ok (.ldc 53, 2) ∧ tK (mO 189) 53 = some (-1000000) := by decide +kernel
theorem k189_31 : decode (mB 189) 31 = .ok (.if_icmp .eq 92, 3) := by decide +kernel
theorem k189_34 : decode (mB 189) 34 = .ok (.iload 4, 2) := by decide +kernel
theorem k189_36 : decode (mB 189) 36 = .ok (.ldc 53, 2) ∧ tK (mO 189) 53 = some (-1000000) := by decide +kernel
theorem k189_38 : decode (mB 189) 38 = .ok (.if_icmp .eq 85, 3) := by decide +kernel
theorem k189_41 : decode (mB 189) 41 = .ok (.aload_n 0, 1) := by decide +kernel
theorem k189_42 : decode (mB 189) 42 = .ok (.bipush 28, 2) := by decide +kernel
theorem k189_44 : decode (mB 189) 44 = .ok (.iconst 4, 1) := by decide +kernel
theorem k189_45 : decode (mB 189) 45 = .ok (.iload_n 3, 1) := by decide +kernel
theorem k189_46 : decode (mB 189) 46 = .ok (.imul, 1) := by decide +kernel
theorem k189_47 : decode (mB 189) 47 = .ok (.iadd, 1) := by decide +kernel
theorem k189_48 : decode (mB 189) 48 = .ok (.iconst 3, 1) := by decide +kernel
theorem k189_49 : decode (mB 189) 49 = .ok (.iadd, 1) := by decide +kernel
theorem k189_50 : decode (mB 189) 50 = .ok (.iaload, 1) := by decide +kernel
theorem k189_51 : decode (mB 189) 51 = .ok (.aload_n 0, 1) := by decide +kernel
theorem k189_52 : decode (mB 189) 52 = .ok (.bipush 28, 2) := by decide +kernel
theorem k189_54 : decode (mB 189) 54 = .ok (.iconst 4, 1) := by decide +kernel
theorem k189_55 : decode (mB 189) 55 = .ok (.iload 4, 2) := by decide +kernel
theorem k189_57 : decode (mB 189) 57 = .ok (.imul, 1) := by decide +kernel
theorem k189_58 : decode (mB 189) 58 = .ok (.iadd, 1) := by decide +kernel
theorem k189_59 : decode (mB 189) 59 = .ok (.iconst 3, 1) := by decide +kernel
theorem k189_60 : decode (mB 189) 60 = .ok (.iadd, 1) := by decide +kernel
theorem k189_61 : decode (mB 189) 61 = .ok (.iaload, 1) := by decide +kernel
theorem k189_62 : decode (mB 189) 62 = .ok (.isub, 1) := by decide +kernel
theorem k189_63 : decode (mB 189) 63 = .ok (.istore 5, 2) := by decide +kernel
theorem k189_65 : decode (mB 189) 65 = .ok (.iload_n 1, 1) := by decide +kernel
theorem k189_66 : decode (mB 189) 66 = .ok (.bipush 10, 2) := by decide +kernel
theorem k189_68 : decode (mB 189) 68 = .ok (.iload 5, 2) := by decide +kernel
theorem k189_70 : decode (mB 189) 70 = .ok (.ifCond .ge 9, 3) := by decide +kernel
theorem k189_73 : decode (mB 189) 73 = .ok (.iload 5, 2) := by decide +kernel
theorem k189_75 : decode (mB 189) 75 = .ok (.ineg, 1) := by decide +kernel
theorem k189_76 : decode (mB 189) 76 = .ok (.goto 5, 3) := by decide +kernel
theorem k189_79 : decode (mB 189) 79 = .ok (.iload 5, 2) := by decide +kernel
theorem k189_81 : decode (mB 189) 81 = .ok (.isub, 1) := by decide +kernel
theorem k189_82 : decode (mB 189) 82 = .ok (.iadd, 1) := by decide +kernel
theorem k189_83 : decode (mB 189) 83 = .ok (.istore_n 1, 1) := by decide +kernel
theorem k189_84 : decode (mB 189) 84 = .ok (.iload_n 1, 1) := by decide +kernel
theorem k189_85 : decode (mB 189) 85 = .ok (.iload_n 2, 1) := by decide +kernel
theorem k189_86 : decode (mB 189) 86 = .ok (.iconst 2, 1) := by decide +kernel
theorem k189_87 : decode (mB 189) 87 = .ok (.iadd, 1) := by decide +kernel
theorem k189_88 : decode (mB 189) 88 = .ok (.aload_n 0, 1) := by decide +kernel
theorem k189_89 : decode (mB 189) 89 = .ok (.iconst 1, 1) := by decide +kernel
theorem k189_90 : decode (mB 189) 90 = .ok (.iaload, 1) := by decide +kernel
theorem k189_91 : decode (mB 189) 91 = .ok (.if_icmp .ge 29, 3) := by decide +kernel
theorem k189_94 : decode (mB 189) 94 = .ok (.aload_n 0, 1) := by decide +kernel
theorem k189_95 : decode (mB 189) 95 = .ok (.iload_n 2, 1) := by decide +kernel
theorem k189_96 : decode (mB 189) 96 = .ok (.iconst 2, 1) := by decide +kernel
theorem k189_97 : decode (mB 189) 97 = .ok (.iadd, 1) := by decide +kernel
theorem k189_98 : decode (mB 189) 98 = .ok (.invokestatic 159, 3) ∧ tM (mO 189) 159 = none ∧ tS (mO 189) 159 = some 187 := by decide +kernel
theorem k189_101 : decode (mB 189) 101 = .ok (.ldc 53, 2) ∧ tK (mO 189) 53 = some (-1000000) := by decide +kernel
theorem k189_103 : decode (mB 189) 103 = .ok (.if_icmp .eq 17, 3) := by decide +kernel
theorem k189_106 : decode (mB 189) 106 = .ok (.aload_n 0, 1) := by decide +kernel
theorem k189_107 : decode (mB 189) 107 = .ok (.iload_n 2, 1) := by decide +kernel
theorem k189_108 : decode (mB 189) 108 = .ok (.invokestatic 163, 3) ∧ tM (mO 189) 163 = none ∧ tS (mO 189) 163 = some 190 := by decide +kernel
theorem k189_111 : decode (mB 189) 111 = .ok (.ifCond .eq 9, 3) := by decide +kernel
theorem k189_114 : decode (mB 189) 114 = .ok (.aload_n 0, 1) := by decide +kernel
theorem k189_115 : decode (mB 189) 115 = .ok (.iconst 0, 1) := by decide +kernel
theorem k189_116 : decode (mB 189) 116 = .ok (.iaload, 1) := by decide +kernel
theorem k189_117 : decode (mB 189) 117 = .ok (.goto 4, 3) := by decide +kernel
theorem k189_120 : decode (mB 189) 120 = .ok (.iconst 0, 1) := by decide +kernel
theorem k189_121 : decode (mB 189) 121 = .ok (.isub, 1) := by decide +kernel
theorem k189_122 : decode (mB 189) 122 = .ok (.istore_n 1, 1) := by decide +kernel
theorem k189_123 : decode (mB 189) 123 = .ok (.iinc 2 1, 3) := by decide +kernel
theorem k189_126 : decode (mB 189) 126 = .ok (.goto (-122), 3) := by decide +kernel
theorem k189_129 : decode (mB 189) 129 = .ok (.iload_n 1, 1) := by decide +kernel
theorem k189_130 : decode (mB 189) 130 = .ok (.ireturn, 1) ∧ mR 189 = (some .int) := by decide +kernel
-- 190: ChairPastModel.isTrio:([II)Z, locals 3
theorem l190 : mL 190 = 3 := by decide +kernel
theorem k190_0 : decode (mB 190) 0 = .ok (.aload_n 0, 1) := by decide +kernel
theorem k190_1 : decode (mB 190) 1 = .ok (.iconst 3, 1) := by decide +kernel
theorem k190_2 : decode (mB 190) 2 = .ok (.iconst 5, 1) := by decide +kernel
theorem k190_3 : decode (mB 190) 3 = .ok (.iload_n 1, 1) := by decide +kernel
theorem k190_4 : decode (mB 190) 4 = .ok (.imul, 1) := by decide +kernel
theorem k190_5 : decode (mB 190) 5 = .ok (.iadd, 1) := by decide +kernel
theorem k190_6 : decode (mB 190) 6 = .ok (.iconst 3, 1) := by decide +kernel
theorem k190_7 : decode (mB 190) 7 = .ok (.iadd, 1) := by decide +kernel
theorem k190_8 : decode (mB 190) 8 = .ok (.iaload, 1) := by decide +kernel
theorem k190_9 : decode (mB 190) 9 = .ok (.istore_n 2, 1) := by decide +kernel
theorem k190_10 : decode (mB 190) 10 = .ok (.iload_n 1, 1) := by decide +kernel
theorem k190_11 : decode (mB 190) 11 = .ok (.iconst 2, 1) := by decide +kernel
theorem k190_12 : decode (mB 190) 12 = .ok (.iadd, 1) := by decide +kernel
theorem k190_13 : decode (mB 190) 13 = .ok (.aload_n 0, 1) := by decide +kernel
theorem k190_14 : decode (mB 190) 14 = .ok (.iconst 1, 1) := by decide +kernel
theorem k190_15 : decode (mB 190) 15 = .ok (.iaload, 1) := by decide +kernel
theorem k190_16 : decode (mB 190) 16 = .ok (.if_icmp .ge 38, 3) := by decide +kernel
theorem k190_19 : decode (mB 190) 19 = .ok (.aload_n 0, 1) := by decide +kernel
theorem k190_20 : decode (mB 190) 20 = .ok (.iconst 3, 1) := by decide +kernel
theorem k190_21 : decode (mB 190) 21 = .ok (.iconst 5, 1) := by decide +kernel
theorem k190_22 : decode (mB 190) 22 = .ok (.iload_n 1, 1) := by decide +kernel
theorem k190_23 : decode (mB 190) 23 = .ok (.imul, 1) := by decide +kernel
theorem k190_24 : decode (mB 190) 24 = .ok (.iadd, 1) := by decide +kernel
theorem k190_25 : decode (mB 190) 25 = .ok (.iconst 5, 1) := by decide +kernel
theorem k190_26 : decode (mB 190) 26 = .ok (.iadd, 1) := by decide +kernel
theorem k190_27 : decode (mB 190) 27 = .ok (.iconst 3, 1) := by decide +kernel
theorem k190_28 : decode (mB 190) 28 = .ok (.iadd, 1) := by decide +kernel
theorem k190_29 : decode (mB 190) 29 = .ok (.iaload, 1) := by decide +kernel
theorem k190_30 : decode (mB 190) 30 = .ok (.iload_n 2, 1) := by decide +kernel
theorem k190_31 : decode (mB 190) 31 = .ok (.if_icmp .ne 23, 3) := by decide +kernel
theorem k190_34 : decode (mB 190) 34 = .ok (.aload_n 0, 1) := by decide +kernel
theorem k190_35 : decode (mB 190) 35 = .ok (.iconst 3, 1) := by decide +kernel
theorem k190_36 : decode (mB 190) 36 = .ok (.iconst 5, 1) := by decide +kernel
theorem k190_37 : decode (mB 190) 37 = .ok (.iload_n 1, 1) := by decide +kernel
theorem k190_38 : decode (mB 190) 38 = .ok (.imul, 1) := by decide +kernel
theorem k190_39 : decode (mB 190) 39 = .ok (.iadd, 1) := by decide +kernel
theorem k190_40 : decode (mB 190) 40 = .ok (.bipush 10, 2) := by decide +kernel
theorem k190_42 : decode (mB 190) 42 = .ok (.iadd, 1) := by decide +kernel
theorem k190_43 : decode (mB 190) 43 = .ok (.iconst 3, 1) := by decide +kernel
theorem k190_44 : decode (mB 190) 44 = .ok (.iadd, 1) := by decide +kernel
theorem k190_45 : decode (mB 190) 45 = .ok (.iaload, 1) := by decide +kernel
theorem k190_46 : decode (mB 190) 46 = .ok (.iload_n 2, 1) := by decide +kernel
theorem k190_47 : decode (mB 190) 47 = .ok (.if_icmp .ne 7, 3) := by decide +kernel
theorem k190_50 : decode (mB 190) 50 = .ok (.iconst 1, 1) := by decide +kernel
theorem k190_51 : decode (mB 190) 51 = .ok (.goto 4, 3) := by decide +kernel
theorem k190_54 : decode (mB 190) 54 = .ok (.iconst 0, 1) := by decide +kernel
theorem k190_55 : decode (mB 190) 55 = .ok (.ireturn, 1) ∧ mR 190 = (some .boolean) := by decide +kernel
