-- 128: ChairPast.pure:(II)I, locals 3
theorem l128 : mL 128 = 3 := by decide +kernel
theorem k128_0 : decode (mB 128) 0 = .ok (.aload_n 0, 1) := by decide +kernel
theorem k128_1 : decode (mB 128) 1 = .ok (.getfield 54, 3) ∧ tF (mO 128) 54 = some (10, 5, 1, 1) := by decide +kernel
theorem k128_4 : decode (mB 128) 4 = .ok (.iload_n 1, 1) := by decide +kernel
theorem k128_5 : decode (mB 128) 5 = .ok (.invokevirtual 152, 3) ∧ tVn (mO 128) 152 = some 1 ∧ tV (mO 128) 152 8 = some 85 := by decide +kernel
theorem k128_8 : decode (mB 128) 8 = .ok (.ifCond .eq 14, 3) := by decide +kernel
theorem k128_11 : decode (mB 128) 11 = .ok (.aload_n 0, 1) := by decide +kernel
theorem k128_12 : decode (mB 128) 12 = .ok (.getfield 54, 3) ∧ tF (mO 128) 54 = some (10, 5, 1, 1) := by decide +kernel
theorem k128_15 : decode (mB 128) 15 = .ok (.iload_n 2, 1) := by decide +kernel
theorem k128_16 : decode (mB 128) 16 = .ok (.invokevirtual 155, 3) ∧ tVn (mO 128) 155 = some 1 ∧ tV (mO 128) 155 8 = some 84 := by decide +kernel
theorem k128_19 : decode (mB 128) 19 = .ok (.ifCond .ne 6, 3) := by decide +kernel
theorem k128_22 : decode (mB 128) 22 = .ok (.ldc 82, 2) ∧ tK (mO 128) 82 = some (-1000001) := by decide +kernel
theorem k128_24 : decode (mB 128) 24 = .ok (.ireturn, 1) ∧ mR 128 = (some .int) := by decide +kernel
theorem k128_25 : decode (mB 128) 25 = .ok (.aload_n 0, 1) := by decide +kernel
theorem k128_26 : decode (mB 128) 26 = .ok (.getfield 70, 3) ∧ tF (mO 128) 70 = some (10, 7, 1, 1) := by decide +kernel
theorem k128_29 : decode (mB 128) 29 = .ok (.iload_n 1, 1) := by decide +kernel
theorem k128_30 : decode (mB 128) 30 = .ok (.iload_n 2, 1) := by decide +kernel
theorem k128_31 : decode (mB 128) 31 = .ok (.invokevirtual 238, 3) ∧ tVn (mO 128) 238 = some 2 ∧ tV (mO 128) 238 3 = some 28 := by decide +kernel
theorem k128_34 : decode (mB 128) 34 = .ok (.ireturn, 1) ∧ mR 128 = (some .int) := by decide +kernel
-- 129: ChairPast.between:(IIII)I, locals 5
theorem l129 : mL 129 = 5 := by decide +kernel
theorem k129_0 : decode (mB 129) 0 = .ok (.aload_n 0, 1) := by decide +kernel
theorem k129_1 : decode (mB 129) 1 = .ok (.getfield 54, 3) ∧ tF (mO 129) 54 = some (10, 5, 1, 1) := by decide +kernel
theorem k129_4 : decode (mB 129) 4 = .ok (.iload_n 1, 1) := by decide +kernel
theorem k129_5 : decode (mB 129) 5 = .ok (.invokevirtual 155, 3) ∧ tVn (mO 129) 155 = some 1 ∧ tV (mO 129) 155 8 = some 84 := by decide +kernel
theorem k129_8 : decode (mB 129) 8 = .ok (.ifCond .eq 33, 3) := by decide +kernel
theorem k129_11 : decode (mB 129) 11 = .ok (.iload_n 2, 1) := by decide +kernel
theorem k129_12 : decode (mB 129) 12 = .ok (.iconst 0, 1) := by decide +kernel
theorem k129_13 : decode (mB 129) 13 = .ok (.bipush 9, 2) := by decide +kernel
theorem k129_15 : decode (mB 129) 15 = .ok (.invokestatic 78, 3) ∧ tM (mO 129) 78 = none ∧ tS (mO 129) 78 = some 143 := by decide +kernel
theorem k129_18 : decode (mB 129) 18 = .ok (.ifCond .eq 23, 3) := by decide +kernel
theorem k129_21 : decode (mB 129) 21 = .ok (.iload_n 3, 1) := by decide +kernel
theorem k129_22 : decode (mB 129) 22 = .ok (.iconst 0, 1) := by decide +kernel
theorem k129_23 : decode (mB 129) 23 = .ok (.bipush 16, 2) := by decide +kernel
theorem k129_25 : decode (mB 129) 25 = .ok (.invokestatic 78, 3) ∧ tM (mO 129) 78 = none ∧ tS (mO 129) 78 = some 143 := by decide +kernel
theorem k129_28 : decode (mB 129) 28 = .ok (.ifCond .eq 13, 3) := by decide +kernel
theorem k129_31 : decode (mB 129) 31 = .ok (.iload 4, 2) := by decide +kernel
theorem k129_33 : decode (mB 129) 33 = .ok (.iconst 0, 1) := by decide +kernel
theorem k129_34 : decode (mB 129) 34 = .ok (.iconst 1, 1) := by decide +kernel
theorem k129_35 : decode (mB 129) 35 = .ok (.invokestatic 78, 3) ∧ tM (mO 129) 78 = none ∧ tS (mO 129) 78 = some 143 := by decide +kernel
theorem k129_38 : decode (mB 129) 38 = .ok (.ifCond .ne 6, 3) := by decide +kernel
theorem k129_41 : decode (mB 129) 41 = .ok (.ldc 82, 2) ∧ tK (mO 129) 82 = some (-1000001) := by decide +kernel
theorem k129_43 : decode (mB 129) 43 = .ok (.ireturn, 1) ∧ mR 129 = (some .int) := by decide +kernel
theorem k129_44 : decode (mB 129) 44 = .ok (.iload 4, 2) := by decide +kernel
theorem k129_46 : decode (mB 129) 46 = .ok (.ifCond .ne 16, 3) := by decide +kernel
theorem k129_49 : decode (mB 129) 49 = .ok (.aload_n 0, 1) := by decide +kernel
theorem k129_50 : decode (mB 129) 50 = .ok (.getfield 70, 3) ∧ tF (mO 129) 70 = some (10, 7, 1, 1) := by decide +kernel
theorem k129_53 : decode (mB 129) 53 = .ok (.iload_n 1, 1) := by decide +kernel
theorem k129_54 : decode (mB 129) 54 = .ok (.iload_n 2, 1) := by decide +kernel
theorem k129_55 : decode (mB 129) 55 = .ok (.iload_n 3, 1) := by decide +kernel
theorem k129_56 : decode (mB 129) 56 = .ok (.invokevirtual 241, 3) ∧ tVn (mO 129) 241 = some 3 ∧ tV (mO 129) 241 3 = some 29 := by decide +kernel
theorem k129_59 : decode (mB 129) 59 = .ok (.goto 13, 3) := by decide +kernel
theorem k129_62 : decode (mB 129) 62 = .ok (.aload_n 0, 1) := by decide +kernel
theorem k129_63 : decode (mB 129) 63 = .ok (.getfield 70, 3) ∧ tF (mO 129) 70 = some (10, 7, 1, 1) := by decide +kernel
theorem k129_66 : decode (mB 129) 66 = .ok (.iload_n 1, 1) := by decide +kernel
theorem k129_67 : decode (mB 129) 67 = .ok (.iload_n 2, 1) := by decide +kernel
theorem k129_68 : decode (mB 129) 68 = .ok (.iload_n 3, 1) := by decide +kernel
theorem k129_69 : decode (mB 129) 69 = .ok (.invokevirtual 244, 3) ∧ tVn (mO 129) 244 = some 3 ∧ tV (mO 129) 244 3 = some 30 := by decide +kernel
theorem k129_72 : decode (mB 129) 72 = .ok (.ireturn, 1) ∧ mR 129 = (some .int) := by decide +kernel
-- 130: ChairPast.trios:(I)I, locals 2
theorem l130 : mL 130 = 2 := by decide +kernel
theorem k130_0 : decode (mB 130) 0 = .ok (.aload_n 0, 1) := by decide +kernel
theorem k130_1 : decode (mB 130) 1 = .ok (.getfield 54, 3) ∧ tF (mO 130) 54 = some (10, 5, 1, 1) := by decide +kernel
theorem k130_4 : decode (mB 130) 4 = .ok (.invokevirtual 221, 3) ∧ tVn (mO 130) 221 = some 0 ∧ tV (mO 130) 221 8 = some 83 := by decide +kernel
theorem k130_7 : decode (mB 130) 7 = .ok (.ifCond .ne 6, 3) := by decide +kernel
theorem k130_10 : decode (mB 130) 10 = .ok (.ldc 164, 2) ∧ tK (mO 130) 164 = some (-1000002) := by decide +kernel
theorem k130_12 : decode (mB 130) 12 = .ok (.ireturn, 1) ∧ mR 130 = (some .int) := by decide +kernel
theorem k130_13 : decode (mB 130) 13 = .ok (.iload_n 1, 1) := by decide +kernel
theorem k130_14 : decode (mB 130) 14 = .ok (.iconst 0, 1) := by decide +kernel
theorem k130_15 : decode (mB 130) 15 = .ok (.iconst 1, 1) := by decide +kernel
theorem k130_16 : decode (mB 130) 16 = .ok (.invokestatic 78, 3) ∧ tM (mO 130) 78 = none ∧ tS (mO 130) 78 = some 143 := by decide +kernel
theorem k130_19 : decode (mB 130) 19 = .ok (.ifCond .ne 6, 3) := by decide +kernel
theorem k130_22 : decode (mB 130) 22 = .ok (.ldc 82, 2) ∧ tK (mO 130) 82 = some (-1000001) := by decide +kernel
theorem k130_24 : decode (mB 130) 24 = .ok (.ireturn, 1) ∧ mR 130 = (some .int) := by decide +kernel
theorem k130_25 : decode (mB 130) 25 = .ok (.iload_n 1, 1) := by decide +kernel
theorem k130_26 : decode (mB 130) 26 = .ok (.ifCond .ne 13, 3) := by decide +kernel
theorem k130_29 : decode (mB 130) 29 = .ok (.aload_n 0, 1) := by decide +kernel
theorem k130_30 : decode (mB 130) 30 = .ok (.getfield 54, 3) ∧ tF (mO 130) 54 = some (10, 5, 1, 1) := by decide +kernel
theorem k130_33 : decode (mB 130) 33 = .ok (.invokevirtual 247, 3) ∧ tVn (mO 130) 247 = some 0 ∧ tV (mO 130) 247 8 = some 95 := by decide +kernel
theorem k130_36 : decode (mB 130) 36 = .ok (.goto 10, 3) := by decide +kernel
theorem k130_39 : decode (mB 130) 39 = .ok (.aload_n 0, 1) := by decide +kernel
theorem k130_40 : decode (mB 130) 40 = .ok (.getfield 54, 3) ∧ tF (mO 130) 54 = some (10, 5, 1, 1) := by decide +kernel
theorem k130_43 : decode (mB 130) 43 = .ok (.invokevirtual 250, 3) ∧ tVn (mO 130) 250 = some 0 ∧ tV (mO 130) 250 8 = some 96 := by decide +kernel
theorem k130_46 : decode (mB 130) 46 = .ok (.ireturn, 1) ∧ mR 130 = (some .int) := by decide +kernel
-- 131: ChairPast.owns:(III)I, locals 5
theorem l131 : mL 131 = 5 := by decide +kernel
theorem k131_0 : decode (mB 131) 0 = .ok (.aload_n 0, 1) := by decide +kernel
theorem k131_1 : decode (mB 131) 1 = .ok (.getfield 54, 3) ∧ tF (mO 131) 54 = some (10, 5, 1, 1) := by decide +kernel
theorem k131_4 : decode (mB 131) 4 = .ok (.iload_n 1, 1) := by decide +kernel
theorem k131_5 : decode (mB 131) 5 = .ok (.invokevirtual 152, 3) ∧ tVn (mO 131) 152 = some 1 ∧ tV (mO 131) 152 8 = some 85 := by decide +kernel
theorem k131_8 : decode (mB 131) 8 = .ok (.ifCond .eq 10, 3) := by decide +kernel
theorem k131_11 : decode (mB 131) 11 = .ok (.iload_n 2, 1) := by decide +kernel
theorem k131_12 : decode (mB 131) 12 = .ok (.invokestatic 74, 3) ∧ tM (mO 131) 74 = none ∧ tS (mO 131) 74 = some 144 := by decide +kernel
theorem k131_15 : decode (mB 131) 15 = .ok (.ifCond .ne 6, 3) := by decide +kernel
theorem k131_18 : decode (mB 131) 18 = .ok (.ldc 82, 2) ∧ tK (mO 131) 82 = some (-1000001) := by decide +kernel
theorem k131_20 : decode (mB 131) 20 = .ok (.ireturn, 1) ∧ mR 131 = (some .int) := by decide +kernel
theorem k131_21 : decode (mB 131) 21 = .ok (.aload_n 0, 1) := by decide +kernel
theorem k131_22 : decode (mB 131) 22 = .ok (.iload_n 2, 1) := by decide +kernel
theorem k131_23 : decode (mB 131) 23 = .ok (.iload_n 3, 1) := by decide +kernel
theorem k131_24 : decode (mB 131) 24 = .ok (.aload_n 0, 1) := by decide +kernel
theorem k131_25 : decode (mB 131) 25 = .ok (.getfield 54, 3) ∧ tF (mO 131) 54 = some (10, 5, 1, 1) := by decide +kernel
theorem k131_28 : decode (mB 131) 28 = .ok (.getfield 149, 3) ∧ tF (mO 131) 149 = some (8, 6, 0, 0) := by decide +kernel
theorem k131_31 : decode (mB 131) 31 = .ok (.invokevirtual 253, 3) ∧ tVn (mO 131) 253 = some 3 ∧ tV (mO 131) 253 10 = some 148 := by decide +kernel
theorem k131_34 : decode (mB 131) 34 = .ok (.istore 4, 2) := by decide +kernel
theorem k131_36 : decode (mB 131) 36 = .ok (.iload 4, 2) := by decide +kernel
theorem k131_38 : decode (mB 131) 38 = .ok (.ifCond .eq 12, 3) := by decide +kernel
theorem k131_41 : decode (mB 131) 41 = .ok (.aload_n 0, 1) := by decide +kernel
theorem k131_42 : decode (mB 131) 42 = .ok (.iload 4, 2) := by decide +kernel
theorem k131_44 : decode (mB 131) 44 = .ok (.invokevirtual 83, 3) ∧ tVn (mO 131) 83 = some 1 ∧ tV (mO 131) 83 10 = some 149 := by decide +kernel
theorem k131_47 : decode (mB 131) 47 = .ok (.goto 24, 3) := by decide +kernel
theorem k131_50 : decode (mB 131) 50 = .ok (.aload_n 0, 1) := by decide +kernel
theorem k131_51 : decode (mB 131) 51 = .ok (.aload_n 0, 1) := by decide +kernel
theorem k131_52 : decode (mB 131) 52 = .ok (.getfield 70, 3) ∧ tF (mO 131) 70 = some (10, 7, 1, 1) := by decide +kernel
theorem k131_55 : decode (mB 131) 55 = .ok (.aload_n 0, 1) := by decide +kernel
theorem k131_56 : decode (mB 131) 56 = .ok (.getfield 11, 3) ∧ tF (mO 131) 11 = some (10, 0, 1, 1) := by decide +kernel
theorem k131_59 : decode (mB 131) 59 = .ok (.iload_n 2, 1) := by decide +kernel
theorem k131_60 : decode (mB 131) 60 = .ok (.aaload, 1) := by decide +kernel
theorem k131_61 : decode (mB 131) 61 = .ok (.getfield 103, 3) ∧ tF (mO 131) 103 = some (4, 0, 1, 1) := by decide +kernel
theorem k131_64 : decode (mB 131) 64 = .ok (.iload_n 3, 1) := by decide +kernel
theorem k131_65 : decode (mB 131) 65 = .ok (.invokevirtual 256, 3) ∧ tVn (mO 131) 256 = some 2 ∧ tV (mO 131) 256 3 = some 31 := by decide +kernel
theorem k131_68 : decode (mB 131) 68 = .ok (.invokevirtual 93, 3) ∧ tVn (mO 131) 93 = some 1 ∧ tV (mO 131) 93 10 = some 150 := by decide +kernel
theorem k131_71 : decode (mB 131) 71 = .ok (.ireturn, 1) ∧ mR 131 = (some .int) := by decide +kernel
-- 132: ChairPast.fits:(IIII)I, locals 6
theorem l132 : mL 132 = 6 := by decide +kernel
theorem k132_0 : decode (mB 132) 0 = .ok (.aload_n 0, 1) := by decide +kernel
theorem k132_1 : decode (mB 132) 1 = .ok (.getfield 54, 3) ∧ tF (mO 132) 54 = some (10, 5, 1, 1) := by decide +kernel
theorem k132_4 : decode (mB 132) 4 = .ok (.iload_n 1, 1) := by decide +kernel
theorem k132_5 : decode (mB 132) 5 = .ok (.invokevirtual 155, 3) ∧ tVn (mO 132) 155 = some 1 ∧ tV (mO 132) 155 8 = some 84 := by decide +kernel
theorem k132_8 : decode (mB 132) 8 = .ok (.ifCond .eq 20, 3) := by decide +kernel
theorem k132_11 : decode (mB 132) 11 = .ok (.iload_n 2, 1) := by decide +kernel
theorem k132_12 : decode (mB 132) 12 = .ok (.invokestatic 74, 3) ∧ tM (mO 132) 74 = none ∧ tS (mO 132) 74 = some 144 := by decide +kernel
theorem k132_15 : decode (mB 132) 15 = .ok (.ifCond .eq 13, 3) := by decide +kernel
theorem k132_18 : decode (mB 132) 18 = .ok (.iload 4, 2) := by decide +kernel
theorem k132_20 : decode (mB 132) 20 = .ok (.iconst 0, 1) := by decide +kernel
theorem k132_21 : decode (mB 132) 21 = .ok (.iconst 2, 1) := by decide +kernel
theorem k132_22 : decode (mB 132) 22 = .ok (.invokestatic 78, 3) ∧ tM (mO 132) 78 = none ∧ tS (mO 132) 78 = some 143 := by decide +kernel
theorem k132_25 : decode (mB 132) 25 = .ok (.ifCond .ne 6, 3) := by decide +kernel
theorem k132_28 : decode (mB 132) 28 = .ok (.ldc 82, 2) ∧ tK (mO 132) 82 = some (-1000001) := by decide +kernel
theorem k132_30 : decode (mB 132) 30 = .ok (.ireturn, 1) ∧ mR 132 = (some .int) := by decide +kernel
theorem k132_31 : decode (mB 132) 31 = .ok (.aload_n 0, 1) := by decide +kernel
theorem k132_32 : decode (mB 132) 32 = .ok (.iload_n 2, 1) := by decide +kernel
theorem k132_33 : decode (mB 132) 33 = .ok (.iload_n 3, 1) := by decide +kernel
theorem k132_34 : decode (mB 132) 34 = .ok (.aload_n 0, 1) := by decide +kernel
theorem k132_35 : decode (mB 132) 35 = .ok (.getfield 54, 3) ∧ tF (mO 132) 54 = some (10, 5, 1, 1) := by decide +kernel
theorem k132_38 : decode (mB 132) 38 = .ok (.getfield 260, 3) ∧ tF (mO 132) 260 = some (8, 7, 0, 0) := by decide +kernel
theorem k132_41 : decode (mB 132) 41 = .ok (.invokevirtual 253, 3) ∧ tVn (mO 132) 253 = some 3 ∧ tV (mO 132) 253 10 = some 148 := by decide +kernel
theorem k132_44 : decode (mB 132) 44 = .ok (.istore 5, 2) := by decide +kernel
theorem k132_46 : decode (mB 132) 46 = .ok (.iload 5, 2) := by decide +kernel
theorem k132_48 : decode (mB 132) 48 = .ok (.ifCond .eq 12, 3) := by decide +kernel
theorem k132_51 : decode (mB 132) 51 = .ok (.aload_n 0, 1) := by decide +kernel
theorem k132_52 : decode (mB 132) 52 = .ok (.iload 5, 2) := by decide +kernel
theorem k132_54 : decode (mB 132) 54 = .ok (.invokevirtual 83, 3) ∧ tVn (mO 132) 83 = some 1 ∧ tV (mO 132) 83 10 = some 149 := by decide +kernel
theorem k132_57 : decode (mB 132) 57 = .ok (.goto 27, 3) := by decide +kernel
theorem k132_60 : decode (mB 132) 60 = .ok (.aload_n 0, 1) := by decide +kernel
theorem k132_61 : decode (mB 132) 61 = .ok (.aload_n 0, 1) := by decide +kernel
theorem k132_62 : decode (mB 132) 62 = .ok (.getfield 70, 3) ∧ tF (mO 132) 70 = some (10, 7, 1, 1) := by decide +kernel
theorem k132_65 : decode (mB 132) 65 = .ok (.iload_n 1, 1) := by decide +kernel
theorem k132_66 : decode (mB 132) 66 = .ok (.aload_n 0, 1) := by decide +kernel
theorem k132_67 : decode (mB 132) 67 = .ok (.getfield 11, 3) ∧ tF (mO 132) 11 = some (10, 0, 1, 1) := by decide +kernel
theorem k132_70 : decode (mB 132) 70 = .ok (.iload_n 2, 1) := by decide +kernel
theorem k132_71 : decode (mB 132) 71 = .ok (.aaload, 1) := by decide +kernel
theorem k132_72 : decode (mB 132) 72 = .ok (.getfield 103, 3) ∧ tF (mO 132) 103 = some (4, 0, 1, 1) := by decide +kernel
theorem k132_75 : decode (mB 132) 75 = .ok (.iload_n 3, 1) := by decide +kernel
theorem k132_76 : decode (mB 132) 76 = .ok (.iload 4, 2) := by decide +kernel
theorem k132_78 : decode (mB 132) 78 = .ok (.invokevirtual 263, 3) ∧ tVn (mO 132) 263 = some 4 ∧ tV (mO 132) 263 3 = some 33 := by decide +kernel
theorem k132_81 : decode (mB 132) 81 = .ok (.invokevirtual 93, 3) ∧ tVn (mO 132) 93 = some 1 ∧ tV (mO 132) 93 10 = some 150 := by decide +kernel
theorem k132_84 : decode (mB 132) 84 = .ok (.ireturn, 1) ∧ mR 132 = (some .int) := by decide +kernel
-- 133: ChairPast.caned:(III)I, locals 4
theorem l133 : mL 133 = 4 := by decide +kernel
theorem k133_0 : decode (mB 133) 0 = .ok (.aload_n 0, 1) := by decide +kernel
theorem k133_1 : decode (mB 133) 1 = .ok (.getfield 54, 3) ∧ tF (mO 133) 54 = some (10, 5, 1, 1) := by decide +kernel
theorem k133_4 : decode (mB 133) 4 = .ok (.invokevirtual 221, 3) ∧ tVn (mO 133) 221 = some 0 ∧ tV (mO 133) 221 8 = some 83 := by decide +kernel
theorem k133_7 : decode (mB 133) 7 = .ok (.ifCond .ne 6, 3) := by decide +kernel
theorem k133_10 : decode (mB 133) 10 = .ok (.ldc 164, 2) ∧ tK (mO 133) 164 = some (-1000002) := by decide +kernel
theorem k133_12 : decode (mB 133) 12 = .ok (.ireturn, 1) ∧ mR 133 = (some .int) := by decide +kernel
theorem k133_13 : decode (mB 133) 13 = .ok (.iload_n 1, 1) := by decide +kernel
theorem k133_14 : decode (mB 133) 14 = .ok (.iconst 0, 1) := by decide +kernel
theorem k133_15 : decode (mB 133) 15 = .ok (.bipush 40, 2) := by decide +kernel
theorem k133_17 : decode (mB 133) 17 = .ok (.invokestatic 78, 3) ∧ tM (mO 133) 78 = none ∧ tS (mO 133) 78 = some 143 := by decide +kernel
theorem k133_20 : decode (mB 133) 20 = .ok (.ifCond .eq 22, 3) := by decide +kernel
theorem k133_23 : decode (mB 133) 23 = .ok (.iload_n 2, 1) := by decide +kernel
theorem k133_24 : decode (mB 133) 24 = .ok (.iconst 0, 1) := by decide +kernel
theorem k133_25 : decode (mB 133) 25 = .ok (.bipush 10, 2) := by decide +kernel
theorem k133_27 : decode (mB 133) 27 = .ok (.invokestatic 78, 3) ∧ tM (mO 133) 78 = none ∧ tS (mO 133) 78 = some 143 := by decide +kernel
theorem k133_30 : decode (mB 133) 30 = .ok (.ifCond .eq 12, 3) := by decide +kernel
theorem k133_33 : decode (mB 133) 33 = .ok (.iload_n 3, 1) := by decide +kernel
theorem k133_34 : decode (mB 133) 34 = .ok (.iconst 0, 1) := by decide +kernel
theorem k133_35 : decode (mB 133) 35 = .ok (.iconst 1, 1) := by decide +kernel
theorem k133_36 : decode (mB 133) 36 = .ok (.invokestatic 78, 3) ∧ tM (mO 133) 78 = none ∧ tS (mO 133) 78 = some 143 := by decide +kernel
theorem k133_39 : decode (mB 133) 39 = .ok (.ifCond .ne 6, 3) := by decide +kernel
theorem k133_42 : decode (mB 133) 42 = .ok (.ldc 82, 2) ∧ tK (mO 133) 82 = some (-1000001) := by decide +kernel
theorem k133_44 : decode (mB 133) 44 = .ok (.ireturn, 1) ∧ mR 133 = (some .int) := by decide +kernel
theorem k133_45 : decode (mB 133) 45 = .ok (.aload_n 0, 1) := by decide +kernel
theorem k133_46 : decode (mB 133) 46 = .ok (.getfield 70, 3) ∧ tF (mO 133) 70 = some (10, 7, 1, 1) := by decide +kernel
theorem k133_49 : decode (mB 133) 49 = .ok (.iload_n 1, 1) := by decide +kernel
theorem k133_50 : decode (mB 133) 50 = .ok (.iload_n 2, 1) := by decide +kernel
theorem k133_51 : decode (mB 133) 51 = .ok (.iload_n 3, 1) := by decide +kernel
theorem k133_52 : decode (mB 133) 52 = .ok (.invokevirtual 267, 3) ∧ tVn (mO 133) 267 = some 3 ∧ tV (mO 133) 267 3 = some 36 := by decide +kernel
theorem k133_55 : decode (mB 133) 55 = .ok (.ireturn, 1) ∧ mR 133 = (some .int) := by decide +kernel
-- 134: ChairPast.drawn:(III)I, locals 4
theorem l134 : mL 134 = 4 := by decide +kernel
theorem k134_0 : decode (mB 134) 0 = .ok (.aload_n 0, 1) := by decide +kernel
theorem k134_1 : decode (mB 134) 1 = .ok (.getfield 54, 3) ∧ tF (mO 134) 54 = some (10, 5, 1, 1) := by decide +kernel
theorem k134_4 : decode (mB 134) 4 = .ok (.invokevirtual 221, 3) ∧ tVn (mO 134) 221 = some 0 ∧ tV (mO 134) 221 8 = some 83 := by decide +kernel
theorem k134_7 : decode (mB 134) 7 = .ok (.ifCond .ne 6, 3) := by decide +kernel
theorem k134_10 : decode (mB 134) 10 = .ok (.ldc 164, 2) ∧ tK (mO 134) 164 = some (-1000002) := by decide +kernel
theorem k134_12 : decode (mB 134) 12 = .ok (.ireturn, 1) ∧ mR 134 = (some .int) := by decide +kernel
theorem k134_13 : decode (mB 134) 13 = .ok (.iload_n 1, 1) := by decide +kernel
theorem k134_14 : decode (mB 134) 14 = .ok (.iconst 0, 1) := by decide +kernel
theorem k134_15 : decode (mB 134) 15 = .ok (.bipush 60, 2) := by decide +kernel
theorem k134_17 : decode (mB 134) 17 = .ok (.invokestatic 78, 3) ∧ tM (mO 134) 78 = none ∧ tS (mO 134) 78 = some 143 := by decide +kernel
theorem k134_20 : decode (mB 134) 20 = .ok (.ifCond .eq 23, 3) := by decide +kernel
theorem k134_23 : decode (mB 134) 23 = .ok (.iload_n 2, 1) := by decide +kernel
theorem k134_24 : decode (mB 134) 24 = .ok (.iconst 1, 1) := by decide +kernel
theorem k134_25 : decode (mB 134) 25 = .ok (.ldc_w 270, 3) ∧ tK (mO 134) 270 = some (999999) := by decide +kernel
theorem k134_28 : decode (mB 134) 28 = .ok (.invokestatic 78, 3) ∧ tM (mO 134) 78 = none ∧ tS (mO 134) 78 = some 143 := by decide +kernel
theorem k134_31 : decode (mB 134) 31 = .ok (.ifCond .eq 12, 3) := by decide +kernel
theorem k134_34 : decode (mB 134) 34 = .ok (.iload_n 3, 1) := by decide +kernel
theorem k134_35 : decode (mB 134) 35 = .ok (.iconst 0, 1) := by decide +kernel
theorem k134_36 : decode (mB 134) 36 = .ok (.iconst 1, 1) := by decide +kernel
theorem k134_37 : decode (mB 134) 37 = .ok (.invokestatic 78, 3) ∧ tM (mO 134) 78 = none ∧ tS (mO 134) 78 = some 143 := by decide +kernel
theorem k134_40 : decode (mB 134) 40 = .ok (.ifCond .ne 6, 3) := by decide +kernel
theorem k134_43 : decode (mB 134) 43 = .ok (.ldc 82, 2) ∧ tK (mO 134) 82 = some (-1000001) := by decide +kernel
theorem k134_45 : decode (mB 134) 45 = .ok (.ireturn, 1) ∧ mR 134 = (some .int) := by decide +kernel
theorem k134_46 : decode (mB 134) 46 = .ok (.aload_n 0, 1) := by decide +kernel
theorem k134_47 : decode (mB 134) 47 = .ok (.getfield 70, 3) ∧ tF (mO 134) 70 = some (10, 7, 1, 1) := by decide +kernel
theorem k134_50 : decode (mB 134) 50 = .ok (.iload_n 1, 1) := by decide +kernel
theorem k134_51 : decode (mB 134) 51 = .ok (.iload_n 2, 1) := by decide +kernel
theorem k134_52 : decode (mB 134) 52 = .ok (.iload_n 3, 1) := by decide +kernel
theorem k134_53 : decode (mB 134) 53 = .ok (.invokevirtual 271, 3) ∧ tVn (mO 134) 271 = some 3 ∧ tV (mO 134) 271 3 = some 40 := by decide +kernel
theorem k134_56 : decode (mB 134) 56 = .ok (.ireturn, 1) ∧ mR 134 = (some .int) := by decide +kernel
-- 135: ChairPast.image:(I)I, locals 2
theorem l135 : mL 135 = 2 := by decide +kernel
theorem k135_0 : decode (mB 135) 0 = .ok (.iload_n 1, 1) := by decide +kernel
theorem k135_1 : decode (mB 135) 1 = .ok (.iconst 0, 1) := by decide +kernel
theorem k135_2 : decode (mB 135) 2 = .ok (.iconst 1, 1) := by decide +kernel
theorem k135_3 : decode (mB 135) 3 = .ok (.invokestatic 78, 3) ∧ tM (mO 135) 78 = none ∧ tS (mO 135) 78 = some 143 := by decide +kernel
theorem k135_6 : decode (mB 135) 6 = .ok (.ifCond .ne 6, 3) := by decide +kernel
theorem k135_9 : decode (mB 135) 9 = .ok (.ldc 82, 2) ∧ tK (mO 135) 82 = some (-1000001) := by decide +kernel
theorem k135_11 : decode (mB 135) 11 = .ok (.ireturn, 1) ∧ mR 135 = (some .int) := by decide +kernel
theorem k135_12 : decode (mB 135) 12 = .ok (.aload_n 0, 1) := by decide +kernel
theorem k135_13 : decode (mB 135) 13 = .ok (.getfield 54, 3) ∧ tF (mO 135) 54 = some (10, 5, 1, 1) := by decide +kernel
theorem k135_16 : decode (mB 135) 16 = .ok (.invokevirtual 221, 3) ∧ tVn (mO 135) 221 = some 0 ∧ tV (mO 135) 221 8 = some 83 := by decide +kernel
theorem k135_19 : decode (mB 135) 19 = .ok (.ifCond .ne 6, 3) := by decide +kernel
theorem k135_22 : decode (mB 135) 22 = .ok (.ldc 164, 2) ∧ tK (mO 135) 164 = some (-1000002) := by decide +kernel
theorem k135_24 : decode (mB 135) 24 = .ok (.ireturn, 1) ∧ mR 135 = (some .int) := by decide +kernel
theorem k135_25 : decode (mB 135) 25 = .ok (.aload_n 0, 1) := by decide +kernel
theorem k135_26 : decode (mB 135) 26 = .ok (.getfield 54, 3) ∧ tF (mO 135) 54 = some (10, 5, 1, 1) := by decide +kernel
theorem k135_29 : decode (mB 135) 29 = .ok (.aload_n 0, 1) := by decide +kernel
theorem k135_30 : decode (mB 135) 30 = .ok (.getfield 26, 3) ∧ tF (mO 135) 26 = some (10, 3, 1, 1) := by decide +kernel
theorem k135_33 : decode (mB 135) 33 = .ok (.iload_n 1, 1) := by decide +kernel
theorem k135_34 : decode (mB 135) 34 = .ok (.aaload, 1) := by decide +kernel
theorem k135_35 : decode (mB 135) 35 = .ok (.invokevirtual 274, 3) ∧ tVn (mO 135) 274 = some 1 ∧ tV (mO 135) 274 8 = some 101 := by decide +kernel
theorem k135_38 : decode (mB 135) 38 = .ok (.iconst 1, 1) := by decide +kernel
theorem k135_39 : decode (mB 135) 39 = .ok (.ireturn, 1) ∧ mR 135 = (some .int) := by decide +kernel
-- 136: ChairPast.restore:(I)I, locals 2
theorem l136 : mL 136 = 2 := by decide +kernel
theorem k136_0 : decode (mB 136) 0 = .ok (.iload_n 1, 1) := by decide +kernel
theorem k136_1 : decode (mB 136) 1 = .ok (.iconst 0, 1) := by decide +kernel
theorem k136_2 : decode (mB 136) 2 = .ok (.iconst 1, 1) := by decide +kernel
theorem k136_3 : decode (mB 136) 3 = .ok (.invokestatic 78, 3) ∧ tM (mO 136) 78 = none ∧ tS (mO 136) 78 = some 143 := by decide +kernel
theorem k136_6 : decode (mB 136) 6 = .ok (.ifCond .ne 6, 3) := by decide +kernel
theorem k136_9 : decode (mB 136) 9 = .ok (.ldc 82, 2) ∧ tK (mO 136) 82 = some (-1000001) := by decide +kernel
theorem k136_11 : decode (mB 136) 11 = .ok (.ireturn, 1) ∧ mR 136 = (some .int) := by decide +kernel
theorem k136_12 : decode (mB 136) 12 = .ok (.aload_n 0, 1) := by decide +kernel
theorem k136_13 : decode (mB 136) 13 = .ok (.getfield 26, 3) ∧ tF (mO 136) 26 = some (10, 3, 1, 1) := by decide +kernel
theorem k136_16 : decode (mB 136) 16 = .ok (.iload_n 1, 1) := by decide +kernel
theorem k136_17 : decode (mB 136) 17 = .ok (.aaload, 1) := by decide +kernel
theorem k136_18 : decode (mB 136) 18 = .ok (.getfield 99, 3) ∧ tF (mO 136) 99 = some (4, 1, 0, 0) := by decide +kernel
theorem k136_21 : decode (mB 136) 21 = .ok (.ifCond .ne 6, 3) := by decide +kernel
theorem k136_24 : decode (mB 136) 24 = .ok (.ldc 164, 2) ∧ tK (mO 136) 164 = some (-1000002) := by decide +kernel
theorem k136_26 : decode (mB 136) 26 = .ok (.ireturn, 1) ∧ mR 136 = (some .int) := by decide +kernel
theorem k136_27 : decode (mB 136) 27 = .ok (.aload_n 0, 1) := by decide +kernel
theorem k136_28 : decode (mB 136) 28 = .ok (.getfield 54, 3) ∧ tF (mO 136) 54 = some (10, 5, 1, 1) := by decide +kernel
theorem k136_31 : decode (mB 136) 31 = .ok (.aload_n 0, 1) := by decide +kernel
theorem k136_32 : decode (mB 136) 32 = .ok (.getfield 26, 3) ∧ tF (mO 136) 26 = some (10, 3, 1, 1) := by decide +kernel
theorem k136_35 : decode (mB 136) 35 = .ok (.iload_n 1, 1) := by decide +kernel
theorem k136_36 : decode (mB 136) 36 = .ok (.aaload, 1) := by decide +kernel
theorem k136_37 : decode (mB 136) 37 = .ok (.invokevirtual 142, 3) ∧ tVn (mO 136) 142 = some 1 ∧ tV (mO 136) 142 8 = some 102 := by decide +kernel
theorem k136_40 : decode (mB 136) 40 = .ok (.aload_n 0, 1) := by decide +kernel
theorem k136_41 : decode (mB 136) 41 = .ok (.invokevirtual 146, 3) ∧ tVn (mO 136) 146 = some 0 ∧ tV (mO 136) 146 10 = some 152 := by decide +kernel
theorem k136_44 : decode (mB 136) 44 = .ok (.iconst 1, 1) := by decide +kernel
theorem k136_45 : decode (mB 136) 45 = .ok (.ireturn, 1) ∧ mR 136 = (some .int) := by decide +kernel
-- 137: ChairPast.kind:(I)I, locals 2
theorem l137 : mL 137 = 2 := by decide +kernel
theorem k137_0 : decode (mB 137) 0 = .ok (.aload_n 0, 1) := by decide +kernel
theorem k137_1 : decode (mB 137) 1 = .ok (.getfield 54, 3) ∧ tF (mO 137) 54 = some (10, 5, 1, 1) := by decide +kernel
theorem k137_4 : decode (mB 137) 4 = .ok (.iload_n 1, 1) := by decide +kernel
theorem k137_5 : decode (mB 137) 5 = .ok (.invokevirtual 155, 3) ∧ tVn (mO 137) 155 = some 1 ∧ tV (mO 137) 155 8 = some 84 := by decide +kernel
theorem k137_8 : decode (mB 137) 8 = .ok (.ifCond .eq 21, 3) := by decide +kernel
theorem k137_11 : decode (mB 137) 11 = .ok (.aload_n 0, 1) := by decide +kernel
theorem k137_12 : decode (mB 137) 12 = .ok (.getfield 54, 3) ∧ tF (mO 137) 54 = some (10, 5, 1, 1) := by decide +kernel
theorem k137_15 : decode (mB 137) 15 = .ok (.getfield 181, 3) ∧ tF (mO 137) 181 = some (8, 1, 1, 1) := by decide +kernel
theorem k137_18 : decode (mB 137) 18 = .ok (.iload_n 1, 1) := by decide +kernel
theorem k137_19 : decode (mB 137) 19 = .ok (.aaload, 1) := by decide +kernel
theorem k137_20 : decode (mB 137) 20 = .ok (.getfield 277, 3) ∧ tF (mO 137) 277 = some (1, 0, 1, 0) := by decide +kernel
theorem k137_23_5 : decode (mB 137) 23 = .ok (.invokevirtual 281, 3) ∧ tVn (mO 137) 281 = some 0 ∧ tV (mO 137) 281 5 = some 53 := by decide +kernel
theorem k137_23_7 : decode (mB 137) 23 = .ok (.invokevirtual 281, 3) ∧ tVn (mO 137) 281 = some 0 ∧ tV (mO 137) 281 7 = some 75 := by decide +kernel
theorem k137_23_0 : decode (mB 137) 23 = .ok (.invokevirtual 281, 3) ∧ tVn (mO 137) 281 = some 0 ∧ tV (mO 137) 281 0 = some 1 := by decide +kernel
theorem k137_23_9 : decode (mB 137) 23 = .ok (.invokevirtual 281, 3) ∧ tVn (mO 137) 281 = some 0 ∧ tV (mO 137) 281 9 = some 104 := by decide +kernel
theorem k137_23_2 : decode (mB 137) 23 = .ok (.invokevirtual 281, 3) ∧ tVn (mO 137) 281 = some 0 ∧ tV (mO 137) 281 2 = some 14 := by decide +kernel
theorem k137_26 : decode (mB 137) 26 = .ok (.goto 5, 3) := by decide +kernel
theorem k137_29 : decode (mB 137) 29 = .ok (.ldc 82, 2) ∧ tK (mO 137) 82 = some (-1000001) := by decide +kernel
theorem k137_31 : decode (mB 137) 31 = .ok (.ireturn, 1) ∧ mR 137 = (some .int) := by decide +kernel
-- 138: ChairPast.as:(II)I, locals 3
theorem l138 : mL 138 = 3 := by decide +kernel
theorem k138_0 : decode (mB 138) 0 = .ok (.aload_n 0, 1) := by decide +kernel
theorem k138_1 : decode (mB 138) 1 = .ok (.getfield 54, 3) ∧ tF (mO 138) 54 = some (10, 5, 1, 1) := by decide +kernel
theorem k138_4 : decode (mB 138) 4 = .ok (.iload_n 1, 1) := by decide +kernel
theorem k138_5 : decode (mB 138) 5 = .ok (.invokevirtual 155, 3) ∧ tVn (mO 138) 155 = some 1 ∧ tV (mO 138) 155 8 = some 84 := by decide +kernel
theorem k138_8 : decode (mB 138) 8 = .ok (.ifCond .eq 12, 3) := by decide +kernel
theorem k138_11 : decode (mB 138) 11 = .ok (.iload_n 2, 1) := by decide +kernel
theorem k138_12 : decode (mB 138) 12 = .ok (.iconst 0, 1) := by decide +kernel
theorem k138_13 : decode (mB 138) 13 = .ok (.iconst 5, 1) := by decide +kernel
theorem k138_14 : decode (mB 138) 14 = .ok (.invokestatic 78, 3) ∧ tM (mO 138) 78 = none ∧ tS (mO 138) 78 = some 143 := by decide +kernel
theorem k138_17 : decode (mB 138) 17 = .ok (.ifCond .ne 6, 3) := by decide +kernel
theorem k138_20 : decode (mB 138) 20 = .ok (.ldc 82, 2) ∧ tK (mO 138) 82 = some (-1000001) := by decide +kernel
theorem k138_22 : decode (mB 138) 22 = .ok (.ireturn, 1) ∧ mR 138 = (some .int) := by decide +kernel
theorem k138_23 : decode (mB 138) 23 = .ok (.aload_n 0, 1) := by decide +kernel
theorem k138_24 : decode (mB 138) 24 = .ok (.getfield 54, 3) ∧ tF (mO 138) 54 = some (10, 5, 1, 1) := by decide +kernel
theorem k138_27 : decode (mB 138) 27 = .ok (.getfield 181, 3) ∧ tF (mO 138) 181 = some (8, 1, 1, 1) := by decide +kernel
theorem k138_30 : decode (mB 138) 30 = .ok (.iload_n 1, 1) := by decide +kernel
theorem k138_31 : decode (mB 138) 31 = .ok (.aaload, 1) := by decide +kernel
theorem k138_32 : decode (mB 138) 32 = .ok (.getfield 277, 3) ∧ tF (mO 138) 277 = some (1, 0, 1, 0) := by decide +kernel
theorem k138_35 : decode (mB 138) 35 = .ok (.iload_n 2, 1) := by decide +kernel
theorem k138_36 : decode (mB 138) 36 = .ok (.invokestatic 284, 3) ∧ tM (mO 138) 284 = none ∧ tS (mO 138) 284 = some 153 := by decide +kernel
theorem k138_39 : decode (mB 138) 39 = .ok (.ifCond .eq 11, 3) := by decide +kernel
theorem k138_42 : decode (mB 138) 42 = .ok (.aload_n 0, 1) := by decide +kernel
theorem k138_43 : decode (mB 138) 43 = .ok (.iload_n 1, 1) := by decide +kernel
theorem k138_44 : decode (mB 138) 44 = .ok (.invokevirtual 93, 3) ∧ tVn (mO 138) 93 = some 1 ∧ tV (mO 138) 93 10 = some 150 := by decide +kernel
theorem k138_47 : decode (mB 138) 47 = .ok (.goto 8, 3) := by decide +kernel
theorem k138_50 : decode (mB 138) 50 = .ok (.aload_n 0, 1) := by decide +kernel
theorem k138_51 : decode (mB 138) 51 = .ok (.iconst 3, 1) := by decide +kernel
theorem k138_52 : decode (mB 138) 52 = .ok (.invokevirtual 83, 3) ∧ tVn (mO 138) 83 = some 1 ∧ tV (mO 138) 83 10 = some 149 := by decide +kernel
theorem k138_55 : decode (mB 138) 55 = .ok (.ireturn, 1) ∧ mR 138 = (some .int) := by decide +kernel
-- 139: ChairPast.ask:(II)I, locals 4
theorem l139 : mL 139 = 4 := by decide +kernel
theorem k139_0 : decode (mB 139) 0 = .ok (.aload_n 0, 1) := by decide +kernel
theorem k139_1 : decode (mB 139) 1 = .ok (.getfield 54, 3) ∧ tF (mO 139) 54 = some (10, 5, 1, 1) := by decide +kernel
theorem k139_4 : decode (mB 139) 4 = .ok (.iload_n 1, 1) := by decide +kernel
theorem k139_5 : decode (mB 139) 5 = .ok (.invokevirtual 155, 3) ∧ tVn (mO 139) 155 = some 1 ∧ tV (mO 139) 155 8 = some 84 := by decide +kernel
theorem k139_8 : decode (mB 139) 8 = .ok (.ifCond .eq 12, 3) := by decide +kernel
theorem k139_11 : decode (mB 139) 11 = .ok (.iload_n 2, 1) := by decide +kernel
theorem k139_12 : decode (mB 139) 12 = .ok (.iconst 0, 1) := by decide +kernel
theorem k139_13 : decode (mB 139) 13 = .ok (.iconst 1, 1) := by decide +kernel
theorem k139_14 : decode (mB 139) 14 = .ok (.invokestatic 78, 3) ∧ tM (mO 139) 78 = none ∧ tS (mO 139) 78 = some 143 := by decide +kernel
theorem k139_17 : decode (mB 139) 17 = .ok (.ifCond .ne 6, 3) := by decide +kernel
theorem k139_20 : decode (mB 139) 20 = .ok (.ldc 82, 2) ∧ tK (mO 139) 82 = some (-1000001) := by decide +kernel
theorem k139_22 : decode (mB 139) 22 = .ok (.ireturn, 1) ∧ mR 139 = (some .int) := by decide +kernel
theorem k139_23 : decode (mB 139) 23 = .ok (.aload_n 0, 1) := by decide +kernel
theorem k139_24 : decode (mB 139) 24 = .ok (.getfield 22, 3) ∧ tF (mO 139) 22 = some (10, 2, 1, 1) := by decide +kernel
theorem k139_27 : decode (mB 139) 27 = .ok (.invokevirtual 87, 3) ∧ tVn (mO 139) 87 = some 0 ∧ tV (mO 139) 87 4 = some 46 := by decide +kernel
theorem k139_30 : decode (mB 139) 30 = .ok (.aload_n 0, 1) := by decide +kernel
theorem k139_31 : decode (mB 139) 31 = .ok (.getfield 54, 3) ∧ tF (mO 139) 54 = some (10, 5, 1, 1) := by decide +kernel
theorem k139_34 : decode (mB 139) 34 = .ok (.getfield 181, 3) ∧ tF (mO 139) 181 = some (8, 1, 1, 1) := by decide +kernel
theorem k139_37 : decode (mB 139) 37 = .ok (.iload_n 1, 1) := by decide +kernel
theorem k139_38 : decode (mB 139) 38 = .ok (.aaload, 1) := by decide +kernel
theorem k139_39 : decode (mB 139) 39 = .ok (.astore_n 3, 1) := by decide +kernel
theorem k139_40 : decode (mB 139) 40 = .ok (.iload_n 2, 1) := by decide +kernel
theorem k139_41 : decode (mB 139) 41 = .ok (.ifCond .ne 18, 3) := by decide +kernel
theorem k139_44 : decode (mB 139) 44 = .ok (.aload_n 3, 1) := by decide +kernel
theorem k139_45 : decode (mB 139) 45 = .ok (.getfield 277, 3) ∧ tF (mO 139) 277 = some (1, 0, 1, 0) := by decide +kernel
theorem k139_48 : decode (mB 139) 48 = .ok (.aload_n 3, 1) := by decide +kernel
theorem k139_49 : decode (mB 139) 49 = .ok (.aload_n 0, 1) := by decide +kernel
theorem k139_50 : decode (mB 139) 50 = .ok (.getfield 22, 3) ∧ tF (mO 139) 22 = some (10, 2, 1, 1) := by decide +kernel
theorem k139_53_5 : decode (mB 139) 53 = .ok (.invokevirtual 288, 3) ∧ tVn (mO 139) 288 = some 2 ∧ tV (mO 139) 288 5 = some 56 := by decide +kernel
theorem k139_53_7 : decode (mB 139) 53 = .ok (.invokevirtual 288, 3) ∧ tVn (mO 139) 288 = some 2 ∧ tV (mO 139) 288 7 = some 77 := by decide +kernel
theorem k139_53_0 : decode (mB 139) 53 = .ok (.invokevirtual 288, 3) ∧ tVn (mO 139) 288 = some 2 ∧ tV (mO 139) 288 0 = some 56 := by decide +kernel
theorem k139_53_9 : decode (mB 139) 53 = .ok (.invokevirtual 288, 3) ∧ tVn (mO 139) 288 = some 2 ∧ tV (mO 139) 288 9 = some 107 := by decide +kernel
theorem k139_53_2 : decode (mB 139) 53 = .ok (.invokevirtual 288, 3) ∧ tVn (mO 139) 288 = some 2 ∧ tV (mO 139) 288 2 = some 16 := by decide +kernel
theorem k139_56 : decode (mB 139) 56 = .ok (.goto 15, 3) := by decide +kernel
theorem k139_59 : decode (mB 139) 59 = .ok (.aload_n 3, 1) := by decide +kernel
theorem k139_60 : decode (mB 139) 60 = .ok (.getfield 277, 3) ∧ tF (mO 139) 277 = some (1, 0, 1, 0) := by decide +kernel
theorem k139_63 : decode (mB 139) 63 = .ok (.aload_n 3, 1) := by decide +kernel
theorem k139_64 : decode (mB 139) 64 = .ok (.aload_n 0, 1) := by decide +kernel
theorem k139_65 : decode (mB 139) 65 = .ok (.getfield 22, 3) ∧ tF (mO 139) 22 = some (10, 2, 1, 1) := by decide +kernel
theorem k139_68_5 : decode (mB 139) 68 = .ok (.invokevirtual 292, 3) ∧ tVn (mO 139) 292 = some 2 ∧ tV (mO 139) 292 5 = some 57 := by decide +kernel
theorem k139_68_7 : decode (mB 139) 68 = .ok (.invokevirtual 292, 3) ∧ tVn (mO 139) 292 = some 2 ∧ tV (mO 139) 292 7 = some 78 := by decide +kernel
theorem k139_68_0 : decode (mB 139) 68 = .ok (.invokevirtual 292, 3) ∧ tVn (mO 139) 292 = some 2 ∧ tV (mO 139) 292 0 = some 4 := by decide +kernel
theorem k139_68_9 : decode (mB 139) 68 = .ok (.invokevirtual 292, 3) ∧ tVn (mO 139) 292 = some 2 ∧ tV (mO 139) 292 9 = some 108 := by decide +kernel
theorem k139_68_2 : decode (mB 139) 68 = .ok (.invokevirtual 292, 3) ∧ tVn (mO 139) 292 = some 2 ∧ tV (mO 139) 292 2 = some 108 := by decide +kernel
theorem k139_71 : decode (mB 139) 71 = .ok (.ireturn, 1) ∧ mR 139 = (some .int) := by decide +kernel
-- 140: ChairPast.trace:(I)I, locals 2
theorem l140 : mL 140 = 2 := by decide +kernel
theorem k140_0 : decode (mB 140) 0 = .ok (.aload_n 0, 1) := by decide +kernel
theorem k140_1 : decode (mB 140) 1 = .ok (.getfield 22, 3) ∧ tF (mO 140) 22 = some (10, 2, 1, 1) := by decide +kernel
theorem k140_4 : decode (mB 140) 4 = .ok (.iload_n 1, 1) := by decide +kernel
theorem k140_5 : decode (mB 140) 5 = .ok (.invokevirtual 295, 3) ∧ tVn (mO 140) 295 = some 1 ∧ tV (mO 140) 295 4 = some 48 := by decide +kernel
theorem k140_8 : decode (mB 140) 8 = .ok (.ireturn, 1) ∧ mR 140 = (some .int) := by decide +kernel
-- 141: ChairPast.count:(I)I, locals 2
theorem l141 : mL 141 = 2 := by decide +kernel
theorem k141_0 : decode (mB 141) 0 = .ok (.iload_n 1, 1) := by decide +kernel
theorem k141_1 : decode (mB 141) 1 = .ok (.tableswitch 108 0 7 #[47, 52, 60, 68, 76, 84, 92, 97], 47) := by decide +kernel
theorem k141_48 : decode (mB 141) 48 = .ok (.aload_n 0, 1) := by decide +kernel
theorem k141_49 : decode (mB 141) 49 = .ok (.invokevirtual 298, 3) ∧ tVn (mO 141) 298 = some 0 ∧ tV (mO 141) 298 10 = some 146 := by decide +kernel
theorem k141_52 : decode (mB 141) 52 = .ok (.ireturn, 1) ∧ mR 141 = (some .int) := by decide +kernel
theorem k141_53 : decode (mB 141) 53 = .ok (.aload_n 0, 1) := by decide +kernel
theorem k141_54 : decode (mB 141) 54 = .ok (.getfield 54, 3) ∧ tF (mO 141) 54 = some (10, 5, 1, 1) := by decide +kernel
theorem k141_57 : decode (mB 141) 57 = .ok (.getfield 149, 3) ∧ tF (mO 141) 149 = some (8, 6, 0, 0) := by decide +kernel
theorem k141_60 : decode (mB 141) 60 = .ok (.ireturn, 1) ∧ mR 141 = (some .int) := by decide +kernel
theorem k141_61 : decode (mB 141) 61 = .ok (.aload_n 0, 1) := by decide +kernel
theorem k141_62 : decode (mB 141) 62 = .ok (.getfield 54, 3) ∧ tF (mO 141) 54 = some (10, 5, 1, 1) := by decide +kernel
theorem k141_65 : decode (mB 141) 65 = .ok (.getfield 260, 3) ∧ tF (mO 141) 260 = some (8, 7, 0, 0) := by decide +kernel
theorem k141_68 : decode (mB 141) 68 = .ok (.ireturn, 1) ∧ mR 141 = (some .int) := by decide +kernel
theorem k141_69 : decode (mB 141) 69 = .ok (.aload_n 0, 1) := by decide +kernel
theorem k141_70 : decode (mB 141) 70 = .ok (.getfield 54, 3) ∧ tF (mO 141) 54 = some (10, 5, 1, 1) := by decide +kernel
theorem k141_73 : decode (mB 141) 73 = .ok (.invokevirtual 301, 3) ∧ tVn (mO 141) 301 = some 0 ∧ tV (mO 141) 301 8 = some 98 := by decide +kernel
theorem k141_76 : decode (mB 141) 76 = .ok (.ireturn, 1) ∧ mR 141 = (some .int) := by decide +kernel
theorem k141_77 : decode (mB 141) 77 = .ok (.aload_n 0, 1) := by decide +kernel
theorem k141_78 : decode (mB 141) 78 = .ok (.getfield 54, 3) ∧ tF (mO 141) 54 = some (10, 5, 1, 1) := by decide +kernel
theorem k141_81 : decode (mB 141) 81 = .ok (.invokevirtual 304, 3) ∧ tVn (mO 141) 304 = some 0 ∧ tV (mO 141) 304 8 = some 99 := by decide +kernel
theorem k141_84 : decode (mB 141) 84 = .ok (.ireturn, 1) ∧ mR 141 = (some .int) := by decide +kernel
theorem k141_85 : decode (mB 141) 85 = .ok (.aload_n 0, 1) := by decide +kernel
theorem k141_86 : decode (mB 141) 86 = .ok (.getfield 54, 3) ∧ tF (mO 141) 54 = some (10, 5, 1, 1) := by decide +kernel
theorem k141_89 : decode (mB 141) 89 = .ok (.getfield 307, 3) ∧ tF (mO 141) 307 = some (8, 8, 0, 0) := by decide +kernel
theorem k141_92 : decode (mB 141) 92 = .ok (.ireturn, 1) ∧ mR 141 = (some .int) := by decide +kernel
theorem k141_93 : decode (mB 141) 93 = .ok (.aload_n 0, 1) := by decide +kernel
theorem k141_94 : decode (mB 141) 94 = .ok (.getfield 197, 3) ∧ tF (mO 141) 197 = some (10, 9, 0, 0) := by decide +kernel
theorem k141_97 : decode (mB 141) 97 = .ok (.ireturn, 1) ∧ mR 141 = (some .int) := by decide +kernel
theorem k141_98 : decode (mB 141) 98 = .ok (.aload_n 0, 1) := by decide +kernel
theorem k141_99 : decode (mB 141) 99 = .ok (.getfield 61, 3) ∧ tF (mO 141) 61 = some (10, 6, 1, 1) := by decide +kernel
theorem k141_102 : decode (mB 141) 102 = .ok (.getfield 120, 3) ∧ tF (mO 141) 120 = some (6, 0, 1, 1) := by decide +kernel
theorem k141_105 : decode (mB 141) 105 = .ok (.getfield 99, 3) ∧ tF (mO 141) 99 = some (4, 1, 0, 0) := by decide +kernel
theorem k141_108 : decode (mB 141) 108 = .ok (.ireturn, 1) ∧ mR 141 = (some .int) := by decide +kernel
theorem k141_109 : decode (mB 141) 109 = .ok (.ldc 82, 2) ∧ tK (mO 141) 82 = some (-1000001) := by decide +kernel
theorem k141_111 : decode (mB 141) 111 = .ok (.ireturn, 1) ∧ mR 141 = (some .int) := by decide +kernel
-- 142: ChairPast.status:()I, locals 1
theorem l142 : mL 142 = 1 := by decide +kernel
theorem k142_0 : decode (mB 142) 0 = .ok (.aload_n 0, 1) := by decide +kernel
theorem k142_1 : decode (mB 142) 1 = .ok (.getfield 310, 3) ∧ tF (mO 142) 310 = some (10, 11, 0, 0) := by decide +kernel
theorem k142_4 : decode (mB 142) 4 = .ok (.ireturn, 1) ∧ mR 142 = (some .int) := by decide +kernel
-- 143: ChairPast.within:(III)Z, locals 3
theorem l143 : mL 143 = 3 := by decide +kernel
theorem k143_0 : decode (mB 143) 0 = .ok (.iload_n 0, 1) := by decide +kernel
theorem k143_1 : decode (mB 143) 1 = .ok (.iload_n 1, 1) := by decide +kernel
theorem k143_2 : decode (mB 143) 2 = .ok (.if_icmp .lt 12, 3) := by decide +kernel
theorem k143_5 : decode (mB 143) 5 = .ok (.iload_n 0, 1) := by decide +kernel
theorem k143_6 : decode (mB 143) 6 = .ok (.iload_n 2, 1) := by decide +kernel
theorem k143_7 : decode (mB 143) 7 = .ok (.if_icmp .gt 7, 3) := by decide +kernel
theorem k143_10 : decode (mB 143) 10 = .ok (.iconst 1, 1) := by decide +kernel
theorem k143_11 : decode (mB 143) 11 = .ok (.goto 4, 3) := by decide +kernel
theorem k143_14 : decode (mB 143) 14 = .ok (.iconst 0, 1) := by decide +kernel
theorem k143_15 : decode (mB 143) 15 = .ok (.ireturn, 1) ∧ mR 143 = (some .boolean) := by decide +kernel
-- 144: ChairPast.isRow:(I)Z, locals 1
theorem l144 : mL 144 = 1 := by decide +kernel
theorem k144_0 : decode (mB 144) 0 = .ok (.iload_n 0, 1) := by decide +kernel
theorem k144_1 : decode (mB 144) 1 = .ok (.iconst 0, 1) := by decide +kernel
theorem k144_2 : decode (mB 144) 2 = .ok (.bipush 7, 2) := by decide +kernel
theorem k144_4 : decode (mB 144) 4 = .ok (.invokestatic 78, 3) ∧ tM (mO 144) 78 = none ∧ tS (mO 144) 78 = some 143 := by decide +kernel
theorem k144_7 : decode (mB 144) 7 = .ok (.ireturn, 1) ∧ mR 144 = (some .boolean) := by decide +kernel
-- 145: ChairPast.isMissing:(I)Z, locals 2
theorem l145 : mL 145 = 2 := by decide +kernel
theorem k145_0 : decode (mB 145) 0 = .ok (.aload_n 0, 1) := by decide +kernel
theorem k145_1 : decode (mB 145) 1 = .ok (.getfield 15, 3) ∧ tF (mO 145) 15 = some (10, 1, 1, 1) := by decide +kernel
theorem k145_4 : decode (mB 145) 4 = .ok (.iload_n 1, 1) := by decide +kernel
theorem k145_5 : decode (mB 145) 5 = .ok (.iaload, 1) := by decide +kernel
theorem k145_6 : decode (mB 145) 6 = .ok (.iconst (-1), 1) := by decide +kernel
theorem k145_7 : decode (mB 145) 7 = .ok (.if_icmp .ne 7, 3) := by decide +kernel
theorem k145_10 : decode (mB 145) 10 = .ok (.iconst 1, 1) := by decide +kernel
theorem k145_11 : decode (mB 145) 11 = .ok (.goto 4, 3) := by decide +kernel
theorem k145_14 : decode (mB 145) 14 = .ok (.iconst 0, 1) := by decide +kernel
theorem k145_15 : decode (mB 145) 15 = .ok (.ireturn, 1) ∧ mR 145 = (some .boolean) := by decide +kernel
-- 146: ChairPast.rowsThere:()I, locals 3
theorem l146 : mL 146 = 3 := by decide +kernel
theorem k146_0 : decode (mB 146) 0 = .ok (.iconst 0, 1) := by decide +kernel
theorem k146_1 : decode (mB 146) 1 = .ok (.istore_n 1, 1) := by decide +kernel
theorem k146_2 : decode (mB 146) 2 = .ok (.iconst 0, 1) := by decide +kernel
theorem k146_3 : decode (mB 146) 3 = .ok (.istore_n 2, 1) := by decide +kernel
theorem k146_4 : decode (mB 146) 4 = .ok (.iload_n 2, 1) := by decide +kernel
theorem k146_5 : decode (mB 146) 5 = .ok (.bipush 8, 2) := by decide +kernel
theorem k146_7 : decode (mB 146) 7 = .ok (.if_icmp .ge 20, 3) := by decide +kernel
theorem k146_10 : decode (mB 146) 10 = .ok (.aload_n 0, 1) := by decide +kernel
theorem k146_11 : decode (mB 146) 11 = .ok (.iload_n 2, 1) := by decide +kernel
theorem k146_12 : decode (mB 146) 12 = .ok (.invokevirtual 96, 3) ∧ tVn (mO 146) 96 = some 1 ∧ tV (mO 146) 96 10 = some 145 := by decide +kernel
theorem k146_15 : decode (mB 146) 15 = .ok (.ifCond .ne 6, 3) := by decide +kernel
theorem k146_18 : decode (mB 146) 18 = .ok (.iinc 1 1, 3) := by decide +kernel
theorem k146_21 : decode (mB 146) 21 = .ok (.iinc 2 1, 3) := by decide +kernel
theorem k146_24 : decode (mB 146) 24 = .ok (.goto (-20), 3) := by decide +kernel
theorem k146_27 : decode (mB 146) 27 = .ok (.iload_n 1, 1) := by decide +kernel
theorem k146_28 : decode (mB 146) 28 = .ok (.ireturn, 1) ∧ mR 146 = (some .int) := by decide +kernel
-- 147: ChairPast.narrowed:(II)I, locals 2
theorem l147 : mL 147 = 2 := by decide +kernel
theorem k147_0 : decode (mB 147) 0 = .ok (.iload_n 0, 1) := by decide +kernel
theorem k147_1 : decode (mB 147) 1 = .ok (.lookupswitch 33 #[(0, 27), (1, 30)], 27) := by decide +kernel
theorem k147_28 : decode (mB 147) 28 = .ok (.iload_n 1, 1) := by decide +kernel
theorem k147_29 : decode (mB 147) 29 = .ok (.i2b, 1) := by decide +kernel
theorem k147_30 : decode (mB 147) 30 = .ok (.ireturn, 1) ∧ mR 147 = (some .int) := by decide +kernel
theorem k147_31 : decode (mB 147) 31 = .ok (.iload_n 1, 1) := by decide +kernel
theorem k147_32 : decode (mB 147) 32 = .ok (.i2s, 1) := by decide +kernel
theorem k147_33 : decode (mB 147) 33 = .ok (.ireturn, 1) ∧ mR 147 = (some .int) := by decide +kernel
theorem k147_34 : decode (mB 147) 34 = .ok (.iload_n 1, 1) := by decide +kernel
theorem k147_35 : decode (mB 147) 35 = .ok (.ireturn, 1) ∧ mR 147 = (some .int) := by decide +kernel
-- 148: ChairPast.findingOf:(III)I, locals 4
theorem l148 : mL 148 = 4 := by decide +kernel
theorem k148_0 : decode (mB 148) 0 = .ok (.aload_n 0, 1) := by decide +kernel
theorem k148_1 : decode (mB 148) 1 = .ok (.iload_n 1, 1) := by decide +kernel
theorem k148_2 : decode (mB 148) 2 = .ok (.invokevirtual 96, 3) ∧ tVn (mO 148) 96 = some 1 ∧ tV (mO 148) 96 10 = some 145 := by decide +kernel
theorem k148_5 : decode (mB 148) 5 = .ok (.ifCond .eq 5, 3) := by decide +kernel
theorem k148_8 : decode (mB 148) 8 = .ok (.iconst 1, 1) := by decide +kernel
theorem k148_9 : decode (mB 148) 9 = .ok (.ireturn, 1) ∧ mR 148 = (some .int) := by decide +kernel
theorem k148_10 : decode (mB 148) 10 = .ok (.aload_n 0, 1) := by decide +kernel
theorem k148_11 : decode (mB 148) 11 = .ok (.getfield 11, 3) ∧ tF (mO 148) 11 = some (10, 0, 1, 1) := by decide +kernel
theorem k148_14 : decode (mB 148) 14 = .ok (.iload_n 1, 1) := by decide +kernel
theorem k148_15 : decode (mB 148) 15 = .ok (.aaload, 1) := by decide +kernel
theorem k148_16 : decode (mB 148) 16 = .ok (.iload_n 2, 1) := by decide +kernel
theorem k148_17 : decode (mB 148) 17 = .ok (.iload_n 3, 1) := by decide +kernel
theorem k148_18 : decode (mB 148) 18 = .ok (.invokevirtual 110, 3) ∧ tVn (mO 148) 110 = some 2 ∧ tV (mO 148) 110 4 = some 49 := by decide +kernel
theorem k148_21 : decode (mB 148) 21 = .ok (.ifCond .eq 7, 3) := by decide +kernel
theorem k148_24 : decode (mB 148) 24 = .ok (.iconst 0, 1) := by decide +kernel
theorem k148_25 : decode (mB 148) 25 = .ok (.goto 4, 3) := by decide +kernel
theorem k148_28 : decode (mB 148) 28 = .ok (.iconst 2, 1) := by decide +kernel
theorem k148_29 : decode (mB 148) 29 = .ok (.ireturn, 1) ∧ mR 148 = (some .int) := by decide +kernel
-- 149: ChairPast.found:(I)I, locals 2
theorem l149 : mL 149 = 2 := by decide +kernel
theorem k149_0 : decode (mB 149) 0 = .ok (.aload_n 0, 1) := by decide +kernel
theorem k149_1 : decode (mB 149) 1 = .ok (.iload_n 1, 1) := by decide +kernel
theorem k149_2 : decode (mB 149) 2 = .ok (.putfield 310, 3) ∧ tF (mO 149) 310 = some (10, 11, 0, 0) := by decide +kernel
theorem k149_5 : decode (mB 149) 5 = .ok (.ldc_w 313, 3) ∧ tK (mO 149) 313 = some (-1000010) := by decide +kernel
theorem k149_8 : decode (mB 149) 8 = .ok (.iload_n 1, 1) := by decide +kernel
theorem k149_9 : decode (mB 149) 9 = .ok (.isub, 1) := by decide +kernel
theorem k149_10 : decode (mB 149) 10 = .ok (.ireturn, 1) ∧ mR 149 = (some .int) := by decide +kernel
-- 150: ChairPast.sound:(I)I, locals 2
theorem l150 : mL 150 = 2 := by decide +kernel
theorem k150_0 : decode (mB 150) 0 = .ok (.aload_n 0, 1) := by decide +kernel
theorem k150_1 : decode (mB 150) 1 = .ok (.iconst 0, 1) := by decide +kernel
theorem k150_2 : decode (mB 150) 2 = .ok (.putfield 310, 3) ∧ tF (mO 150) 310 = some (10, 11, 0, 0) := by decide +kernel
theorem k150_5 : decode (mB 150) 5 = .ok (.iload_n 1, 1) := by decide +kernel
theorem k150_6 : decode (mB 150) 6 = .ok (.ireturn, 1) ∧ mR 150 = (some .int) := by decide +kernel
-- 151: ChairPast.keepAct:()V, locals 1
theorem l151 : mL 151 = 1 := by decide +kernel
theorem k151_0 : decode (mB 151) 0 = .ok (.aload_n 0, 1) := by decide +kernel
theorem k151_1 : decode (mB 151) 1 = .ok (.getfield 54, 3) ∧ tF (mO 151) 54 = some (10, 5, 1, 1) := by decide +kernel
theorem k151_4 : decode (mB 151) 4 = .ok (.aload_n 0, 1) := by decide +kernel
theorem k151_5 : decode (mB 151) 5 = .ok (.getfield 29, 3) ∧ tF (mO 151) 29 = some (10, 4, 1, 1) := by decide +kernel
theorem k151_8 : decode (mB 151) 8 = .ok (.aload_n 0, 1) := by decide +kernel
theorem k151_9 : decode (mB 151) 9 = .ok (.getfield 200, 3) ∧ tF (mO 151) 200 = some (10, 8, 0, 0) := by decide +kernel
theorem k151_12 : decode (mB 151) 12 = .ok (.aload_n 0, 1) := by decide +kernel
theorem k151_13 : decode (mB 151) 13 = .ok (.getfield 197, 3) ∧ tF (mO 151) 197 = some (10, 9, 0, 0) := by decide +kernel
theorem k151_16 : decode (mB 151) 16 = .ok (.iadd, 1) := by decide +kernel
theorem k151_17 : decode (mB 151) 17 = .ok (.bipush 24, 2) := by decide +kernel
theorem k151_19 : decode (mB 151) 19 = .ok (.irem, 1) := by decide +kernel
theorem k151_20 : decode (mB 151) 20 = .ok (.aaload, 1) := by decide +kernel
theorem k151_21 : decode (mB 151) 21 = .ok (.invokevirtual 274, 3) ∧ tVn (mO 151) 274 = some 1 ∧ tV (mO 151) 274 8 = some 101 := by decide +kernel
theorem k151_24 : decode (mB 151) 24 = .ok (.aload_n 0, 1) := by decide +kernel
theorem k151_25 : decode (mB 151) 25 = .ok (.getfield 197, 3) ∧ tF (mO 151) 197 = some (10, 9, 0, 0) := by decide +kernel
theorem k151_28 : decode (mB 151) 28 = .ok (.bipush 24, 2) := by decide +kernel
theorem k151_30 : decode (mB 151) 30 = .ok (.if_icmp .ge 16, 3) := by decide +kernel
theorem k151_33 : decode (mB 151) 33 = .ok (.aload_n 0, 1) := by decide +kernel
theorem k151_34 : decode (mB 151) 34 = .ok (.dup, 1) := by decide +kernel
theorem k151_35 : decode (mB 151) 35 = .ok (.getfield 197, 3) ∧ tF (mO 151) 197 = some (10, 9, 0, 0) := by decide +kernel
theorem k151_38 : decode (mB 151) 38 = .ok (.iconst 1, 1) := by decide +kernel
theorem k151_39 : decode (mB 151) 39 = .ok (.iadd, 1) := by decide +kernel
theorem k151_40 : decode (mB 151) 40 = .ok (.putfield 197, 3) ∧ tF (mO 151) 197 = some (10, 9, 0, 0) := by decide +kernel
theorem k151_43 : decode (mB 151) 43 = .ok (.goto 16, 3) := by decide +kernel
theorem k151_46 : decode (mB 151) 46 = .ok (.aload_n 0, 1) := by decide +kernel
theorem k151_47 : decode (mB 151) 47 = .ok (.aload_n 0, 1) := by decide +kernel
theorem k151_48 : decode (mB 151) 48 = .ok (.getfield 200, 3) ∧ tF (mO 151) 200 = some (10, 8, 0, 0) := by decide +kernel
theorem k151_51 : decode (mB 151) 51 = .ok (.iconst 1, 1) := by decide +kernel
theorem k151_52 : decode (mB 151) 52 = .ok (.iadd, 1) := by decide +kernel
theorem k151_53 : decode (mB 151) 53 = .ok (.bipush 24, 2) := by decide +kernel
theorem k151_55 : decode (mB 151) 55 = .ok (.irem, 1) := by decide +kernel
theorem k151_56 : decode (mB 151) 56 = .ok (.putfield 200, 3) ∧ tF (mO 151) 200 = some (10, 8, 0, 0) := by decide +kernel
theorem k151_59 : decode (mB 151) 59 = .ok (.return_, 1) ∧ mR 151 = none := by decide +kernel
-- 152: ChairPast.forgetActs:()V, locals 1
theorem l152 : mL 152 = 1 := by decide +kernel
theorem k152_0 : decode (mB 152) 0 = .ok (.aload_n 0, 1) := by decide +kernel
theorem k152_1 : decode (mB 152) 1 = .ok (.iconst 0, 1) := by decide +kernel
theorem k152_2 : decode (mB 152) 2 = .ok (.putfield 200, 3) ∧ tF (mO 152) 200 = some (10, 8, 0, 0) := by decide +kernel
theorem k152_5 : decode (mB 152) 5 = .ok (.aload_n 0, 1) := by decide +kernel
theorem k152_6 : decode (mB 152) 6 = .ok (.iconst 0, 1) := by decide +kernel
theorem k152_7 : decode (mB 152) 7 = .ok (.putfield 197, 3) ∧ tF (mO 152) 197 = some (10, 9, 0, 0) := by decide +kernel
theorem k152_10 : decode (mB 152) 10 = .ok (.return_, 1) ∧ mR 152 = none := by decide +kernel
-- 153: ChairPast.isOf:(LChairPast$Kind;I)Z, locals 2
theorem l153 : mL 153 = 2 := by decide +kernel
theorem k153_0 : decode (mB 153) 0 = .ok (.iload_n 1, 1) := by decide +kernel
theorem k153_1 : decode (mB 153) 1 = .ok (.tableswitch 66 0 5 #[39, 41, 46, 51, 56, 61], 39) := by decide +kernel
theorem k153_40 : decode (mB 153) 40 = .ok (.iconst 1, 1) := by decide +kernel
theorem k153_41 : decode (mB 153) 41 = .ok (.ireturn, 1) ∧ mR 153 = (some .boolean) := by decide +kernel
theorem k153_42 : decode (mB 153) 42 = .ok (.aload_n 0, 1) := by decide +kernel
theorem k153_43 : decode (mB 153) 43 = .ok (.instanceof 34, 3) ∧ tO (mO 153) 34 = some 6 := by decide +kernel
theorem k153_46 : decode (mB 153) 46 = .ok (.ireturn, 1) ∧ mR 153 = (some .boolean) := by decide +kernel
theorem k153_47 : decode (mB 153) 47 = .ok (.aload_n 0, 1) := by decide +kernel
theorem k153_48 : decode (mB 153) 48 = .ok (.instanceof 37, 3) ∧ tO (mO 153) 37 = some 8 := by decide +kernel
theorem k153_51 : decode (mB 153) 51 = .ok (.ireturn, 1) ∧ mR 153 = (some .boolean) := by decide +kernel
theorem k153_52 : decode (mB 153) 52 = .ok (.aload_n 0, 1) := by decide +kernel
theorem k153_53 : decode (mB 153) 53 = .ok (.instanceof 40, 3) ∧ tO (mO 153) 40 = some 0 := by decide +kernel
theorem k153_56 : decode (mB 153) 56 = .ok (.ireturn, 1) ∧ mR 153 = (some .boolean) := by decide +kernel
theorem k153_57 : decode (mB 153) 57 = .ok (.aload_n 0, 1) := by decide +kernel
theorem k153_58 : decode (mB 153) 58 = .ok (.instanceof 43, 3) ∧ tO (mO 153) 43 = some 10 := by decide +kernel
theorem k153_61 : decode (mB 153) 61 = .ok (.ireturn, 1) ∧ mR 153 = (some .boolean) := by decide +kernel
theorem k153_62 : decode (mB 153) 62 = .ok (.aload_n 0, 1) := by decide +kernel
theorem k153_63 : decode (mB 153) 63 = .ok (.instanceof 46, 3) ∧ tO (mO 153) 46 = some 2 := by decide +kernel
theorem k153_66 : decode (mB 153) 66 = .ok (.ireturn, 1) ∧ mR 153 = (some .boolean) := by decide +kernel
theorem k153_67 : decode (mB 153) 67 = .ok (.iconst 0, 1) := by decide +kernel
theorem k153_68 : decode (mB 153) 68 = .ok (.ireturn, 1) ∧ mR 153 = (some .boolean) := by decide +kernel
-- 155: ChairPastModel.in:(III)Z, locals 3
theorem l155 : mL 155 = 3 := by decide +kernel
theorem k155_0 : decode (mB 155) 0 = .ok (.iload_n 0, 1) := by decide +kernel
theorem k155_1 : decode (mB 155) 1 = .ok (.iload_n 1, 1) := by decide +kernel
theorem k155_2 : decode (mB 155) 2 = .ok (.if_icmp .lt 12, 3) := by decide +kernel
theorem k155_5 : decode (mB 155) 5 = .ok (.iload_n 0, 1) := by decide +kernel
theorem k155_6 : decode (mB 155) 6 = .ok (.iload_n 2, 1) := by decide +kernel
theorem k155_7 : decode (mB 155) 7 = .ok (.if_icmp .gt 7, 3) := by decide +kernel
theorem k155_10 : decode (mB 155) 10 = .ok (.iconst 1, 1) := by decide +kernel
theorem k155_11 : decode (mB 155) 11 = .ok (.goto 4, 3) := by decide +kernel
theorem k155_14 : decode (mB 155) 14 = .ok (.iconst 0, 1) := by decide +kernel
theorem k155_15 : decode (mB 155) 15 = .ok (.ireturn, 1) ∧ mR 155 = (some .boolean) := by decide +kernel
-- 156: ChairPastModel.has:(II)Z, locals 2
theorem l156 : mL 156 = 2 := by decide +kernel
theorem k156_0 : decode (mB 156) 0 = .ok (.iload_n 0, 1) := by decide +kernel
theorem k156_1 : decode (mB 156) 1 = .ok (.iload_n 1, 1) := by decide +kernel
theorem k156_2 : decode (mB 156) 2 = .ok (.ishr, 1) := by decide +kernel
theorem k156_3 : decode (mB 156) 3 = .ok (.iconst 1, 1) := by decide +kernel
theorem k156_4 : decode (mB 156) 4 = .ok (.iand, 1) := by decide +kernel
theorem k156_5 : decode (mB 156) 5 = .ok (.iconst 1, 1) := by decide +kernel
theorem k156_6 : decode (mB 156) 6 = .ok (.if_icmp .ne 7, 3) := by decide +kernel
theorem k156_9 : decode (mB 156) 9 = .ok (.iconst 1, 1) := by decide +kernel
theorem k156_10 : decode (mB 156) 10 = .ok (.goto 4, 3) := by decide +kernel
theorem k156_13 : decode (mB 156) 13 = .ok (.iconst 0, 1) := by decide +kernel
theorem k156_14 : decode (mB 156) 14 = .ok (.ireturn, 1) ∧ mR 156 = (some .boolean) := by decide +kernel
-- 157: ChairPastModel.found:(I)I, locals 2
theorem l157 : mL 157 = 2 := by decide +kernel
theorem k157_0 : decode (mB 157) 0 = .ok (.aload_n 0, 1) := by decide +kernel
theorem k157_1 : decode (mB 157) 1 = .ok (.iload_n 1, 1) := by decide +kernel
theorem k157_2 : decode (mB 157) 2 = .ok (.putfield 54, 3) ∧ tF (mO 157) 54 = some (11, 4, 0, 0) := by decide +kernel
theorem k157_5 : decode (mB 157) 5 = .ok (.ldc 58, 2) ∧ tK (mO 157) 58 = some (-1000010) := by decide +kernel
theorem k157_7 : decode (mB 157) 7 = .ok (.iload_n 1, 1) := by decide +kernel
theorem k157_8 : decode (mB 157) 8 = .ok (.isub, 1) := by decide +kernel
theorem k157_9 : decode (mB 157) 9 = .ok (.ireturn, 1) ∧ mR 157 = (some .int) := by decide +kernel
-- 158: ChairPastModel.well:(I)I, locals 2
theorem l158 : mL 158 = 2 := by decide +kernel
theorem k158_0 : decode (mB 158) 0 = .ok (.aload_n 0, 1) := by decide +kernel
theorem k158_1 : decode (mB 158) 1 = .ok (.iconst 0, 1) := by decide +kernel
theorem k158_2 : decode (mB 158) 2 = .ok (.putfield 54, 3) ∧ tF (mO 158) 54 = some (11, 4, 0, 0) := by decide +kernel
theorem k158_5 : decode (mB 158) 5 = .ok (.iload_n 1, 1) := by decide +kernel
theorem k158_6 : decode (mB 158) 6 = .ok (.ireturn, 1) ∧ mR 158 = (some .int) := by decide +kernel
-- 159: ChairPastModel.copies:([II[II)V, locals 5
theorem l159 : mL 159 = 5 := by decide +kernel
theorem k159_0 : decode (mB 159) 0 = .ok (.iconst 0, 1) := by decide +kernel
theorem k159_1 : decode (mB 159) 1 = .ok (.istore 4, 2) := by decide +kernel
theorem k159_3 : decode (mB 159) 3 = .ok (.iload 4, 2) := by decide +kernel
theorem k159_5 : decode (mB 159) 5 = .ok (.bipush 48, 2) := by decide +kernel
theorem k159_7 : decode (mB 159) 7 = .ok (.if_icmp .ge 21, 3) := by decide +kernel
theorem k159_10 : decode (mB 159) 10 = .ok (.aload_n 2, 1) := by decide +kernel
theorem k159_11 : decode (mB 159) 11 = .ok (.iload_n 3, 1) := by decide +kernel
theorem k159_12 : decode (mB 159) 12 = .ok (.iload 4, 2) := by decide +kernel
theorem k159_14 : decode (mB 159) 14 = .ok (.iadd, 1) := by decide +kernel
theorem k159_15 : decode (mB 159) 15 = .ok (.aload_n 0, 1) := by decide +kernel
theorem k159_16 : decode (mB 159) 16 = .ok (.iload_n 1, 1) := by decide +kernel
theorem k159_17 : decode (mB 159) 17 = .ok (.iload 4, 2) := by decide +kernel
theorem k159_19 : decode (mB 159) 19 = .ok (.iadd, 1) := by decide +kernel
theorem k159_20 : decode (mB 159) 20 = .ok (.iaload, 1) := by decide +kernel
theorem k159_21 : decode (mB 159) 21 = .ok (.iastore, 1) := by decide +kernel
theorem k159_22 : decode (mB 159) 22 = .ok (.iinc 4 1, 3) := by decide +kernel
theorem k159_25 : decode (mB 159) 25 = .ok (.goto (-22), 3) := by decide +kernel
theorem k159_28 : decode (mB 159) 28 = .ok (.return_, 1) ∧ mR 159 = none := by decide +kernel
-- 160: ChairPastModel.isRow:(I)Z, locals 1
theorem l160 : mL 160 = 1 := by decide +kernel
theorem k160_0 : decode (mB 160) 0 = .ok (.iload_n 0, 1) := by decide +kernel
theorem k160_1 : decode (mB 160) 1 = .ok (.iconst 0, 1) := by decide +kernel
theorem k160_2 : decode (mB 160) 2 = .ok (.bipush 7, 2) := by decide +kernel
theorem k160_4 : decode (mB 160) 4 = .ok (.invokestatic 59, 3) ∧ tM (mO 160) 59 = none ∧ tS (mO 160) 59 = some 155 := by decide +kernel
theorem k160_7 : decode (mB 160) 7 = .ok (.ireturn, 1) ∧ mR 160 = (some .boolean) := by decide +kernel
-- 161: ChairPastModel.isMissing:(I)Z, locals 2
theorem l161 : mL 161 = 2 := by decide +kernel
theorem k161_0 : decode (mB 161) 0 = .ok (.aload_n 0, 1) := by decide +kernel
theorem k161_1 : decode (mB 161) 1 = .ok (.getfield 7, 3) ∧ tF (mO 161) 7 = some (11, 0, 1, 1) := by decide +kernel
theorem k161_4 : decode (mB 161) 4 = .ok (.iload_n 1, 1) := by decide +kernel
theorem k161_5 : decode (mB 161) 5 = .ok (.iaload, 1) := by decide +kernel
theorem k161_6 : decode (mB 161) 6 = .ok (.ldc 53, 2) ∧ tK (mO 161) 53 = some (-1000000) := by decide +kernel
theorem k161_8 : decode (mB 161) 8 = .ok (.if_icmp .ne 7, 3) := by decide +kernel
theorem k161_11 : decode (mB 161) 11 = .ok (.iconst 1, 1) := by decide +kernel
theorem k161_12 : decode (mB 161) 12 = .ok (.goto 4, 3) := by decide +kernel
theorem k161_15 : decode (mB 161) 15 = .ok (.iconst 0, 1) := by decide +kernel
theorem k161_16 : decode (mB 161) 16 = .ok (.ireturn, 1) ∧ mR 161 = (some .boolean) := by decide +kernel
-- 162: ChairPastModel.cut:(II)I, locals 2
theorem l162 : mL 162 = 2 := by decide +kernel
theorem k162_0 : decode (mB 162) 0 = .ok (.iload_n 0, 1) := by decide +kernel
theorem k162_1 : decode (mB 162) 1 = .ok (.ifCond .ne 13, 3) := by decide +kernel
theorem k162_4 : decode (mB 162) 4 = .ok (.iload_n 1, 1) := by decide +kernel
theorem k162_5 : decode (mB 162) 5 = .ok (.bipush 24, 2) := by decide +kernel
theorem k162_7 : decode (mB 162) 7 = .ok (.ishl, 1) := by decide +kernel
theorem k162_8 : decode (mB 162) 8 = .ok (.bipush 24, 2) := by decide +kernel
theorem k162_10 : decode (mB 162) 10 = .ok (.ishr, 1) := by decide +kernel
theorem k162_11 : decode (mB 162) 11 = .ok (.goto 19, 3) := by decide +kernel
theorem k162_14 : decode (mB 162) 14 = .ok (.iload_n 0, 1) := by decide +kernel
theorem k162_15 : decode (mB 162) 15 = .ok (.iconst 1, 1) := by decide +kernel
theorem k162_16 : decode (mB 162) 16 = .ok (.if_icmp .ne 13, 3) := by decide +kernel
theorem k162_19 : decode (mB 162) 19 = .ok (.iload_n 1, 1) := by decide +kernel
theorem k162_20 : decode (mB 162) 20 = .ok (.bipush 16, 2) := by decide +kernel
theorem k162_22 : decode (mB 162) 22 = .ok (.ishl, 1) := by decide +kernel
theorem k162_23 : decode (mB 162) 23 = .ok (.bipush 16, 2) := by decide +kernel
theorem k162_25 : decode (mB 162) 25 = .ok (.ishr, 1) := by decide +kernel
theorem k162_26 : decode (mB 162) 26 = .ok (.goto 4, 3) := by decide +kernel
theorem k162_29 : decode (mB 162) 29 = .ok (.iload_n 1, 1) := by decide +kernel
theorem k162_30 : decode (mB 162) 30 = .ok (.ireturn, 1) ∧ mR 162 = (some .int) := by decide +kernel
-- 163: ChairPastModel.row:(III)I, locals 5
theorem l163 : mL 163 = 5 := by decide +kernel
theorem k163_0 : decode (mB 163) 0 = .ok (.iload_n 1, 1) := by decide +kernel
theorem k163_1 : decode (mB 163) 1 = .ok (.invokestatic 63, 3) ∧ tM (mO 163) 63 = none ∧ tS (mO 163) 63 = some 160 := by decide +kernel
theorem k163_4 : decode (mB 163) 4 = .ok (.ifCond .eq 18, 3) := by decide +kernel
theorem k163_7 : decode (mB 163) 7 = .ok (.iload_n 2, 1) := by decide +kernel
theorem k163_8 : decode (mB 163) 8 = .ok (.iconst 0, 1) := by decide +kernel
theorem k163_9 : decode (mB 163) 9 = .ok (.iconst 2, 1) := by decide +kernel
theorem k163_10 : decode (mB 163) 10 = .ok (.invokestatic 59, 3) ∧ tM (mO 163) 59 = none ∧ tS (mO 163) 59 = some 155 := by decide +kernel
theorem k163_13 : decode (mB 163) 13 = .ok (.ifCond .eq 9, 3) := by decide +kernel
theorem k163_16 : decode (mB 163) 16 = .ok (.iload_n 3, 1) := by decide +kernel
theorem k163_17 : decode (mB 163) 17 = .ok (.bipush 40, 2) := by decide +kernel
theorem k163_19 : decode (mB 163) 19 = .ok (.if_icmp .le 6, 3) := by decide +kernel
theorem k163_22 : decode (mB 163) 22 = .ok (.ldc 67, 2) ∧ tK (mO 163) 67 = some (-1000001) := by decide +kernel
theorem k163_24 : decode (mB 163) 24 = .ok (.ireturn, 1) ∧ mR 163 = (some .int) := by decide +kernel
theorem k163_25 : decode (mB 163) 25 = .ok (.iload_n 3, 1) := by decide +kernel
theorem k163_26 : decode (mB 163) 26 = .ok (.ifCond .ge 9, 3) := by decide +kernel
theorem k163_29 : decode (mB 163) 29 = .ok (.aload_n 0, 1) := by decide +kernel
theorem k163_30 : decode (mB 163) 30 = .ok (.iconst 4, 1) := by decide +kernel
theorem k163_31 : decode (mB 163) 31 = .ok (.invokevirtual 68, 3) ∧ tVn (mO 163) 68 = some 1 ∧ tV (mO 163) 68 11 = some 157 := by decide +kernel
theorem k163_34 : decode (mB 163) 34 = .ok (.ireturn, 1) ∧ mR 163 = (some .int) := by decide +kernel
theorem k163_35 : decode (mB 163) 35 = .ok (.aload_n 0, 1) := by decide +kernel
theorem k163_36 : decode (mB 163) 36 = .ok (.getfield 7, 3) ∧ tF (mO 163) 7 = some (11, 0, 1, 1) := by decide +kernel
theorem k163_39 : decode (mB 163) 39 = .ok (.iload_n 1, 1) := by decide +kernel
theorem k163_40 : decode (mB 163) 40 = .ok (.iload_n 2, 1) := by decide +kernel
theorem k163_41 : decode (mB 163) 41 = .ok (.iastore, 1) := by decide +kernel
theorem k163_42 : decode (mB 163) 42 = .ok (.aload_n 0, 1) := by decide +kernel
theorem k163_43 : decode (mB 163) 43 = .ok (.getfield 13, 3) ∧ tF (mO 163) 13 = some (11, 1, 1, 1) := by decide +kernel
theorem k163_46 : decode (mB 163) 46 = .ok (.iload_n 1, 1) := by decide +kernel
theorem k163_47 : decode (mB 163) 47 = .ok (.iload_n 3, 1) := by decide +kernel
theorem k163_48 : decode (mB 163) 48 = .ok (.iastore, 1) := by decide +kernel
theorem k163_49 : decode (mB 163) 49 = .ok (.iconst 0, 1) := by decide +kernel
theorem k163_50 : decode (mB 163) 50 = .ok (.istore 4, 2) := by decide +kernel
theorem k163_52 : decode (mB 163) 52 = .ok (.iload 4, 2) := by decide +kernel
theorem k163_54 : decode (mB 163) 54 = .ok (.bipush 40, 2) := by decide +kernel
theorem k163_56 : decode (mB 163) 56 = .ok (.if_icmp .ge 22, 3) := by decide +kernel
theorem k163_59 : decode (mB 163) 59 = .ok (.aload_n 0, 1) := by decide +kernel
theorem k163_60 : decode (mB 163) 60 = .ok (.getfield 16, 3) ∧ tF (mO 163) 16 = some (11, 2, 1, 1) := by decide +kernel
theorem k163_63 : decode (mB 163) 63 = .ok (.bipush 40, 2) := by decide +kernel
theorem k163_65 : decode (mB 163) 65 = .ok (.iload_n 1, 1) := by decide +kernel
theorem k163_66 : decode (mB 163) 66 = .ok (.imul, 1) := by decide +kernel
theorem k163_67 : decode (mB 163) 67 = .ok (.iload 4, 2) := by decide +kernel
theorem k163_69 : decode (mB 163) 69 = .ok (.iadd, 1) := by decide +kernel
theorem k163_70 : decode (mB 163) 70 = .ok (.iconst 0, 1) := by decide +kernel
theorem k163_71 : decode (mB 163) 71 = .ok (.iastore, 1) := by decide +kernel
theorem k163_72 : decode (mB 163) 72 = .ok (.iinc 4 1, 3) := by decide +kernel
theorem k163_75 : decode (mB 163) 75 = .ok (.goto (-23), 3) := by decide +kernel
theorem k163_78 : decode (mB 163) 78 = .ok (.aload_n 0, 1) := by decide +kernel
theorem k163_79 : decode (mB 163) 79 = .ok (.iload_n 3, 1) := by decide +kernel
theorem k163_80 : decode (mB 163) 80 = .ok (.invokevirtual 72, 3) ∧ tVn (mO 163) 72 = some 1 ∧ tV (mO 163) 72 11 = some 158 := by decide +kernel
theorem k163_83 : decode (mB 163) 83 = .ok (.ireturn, 1) ∧ mR 163 = (some .int) := by decide +kernel
-- 164: ChairPastModel.set:(III)I, locals 4
theorem l164 : mL 164 = 4 := by decide +kernel
theorem k164_0 : decode (mB 164) 0 = .ok (.iload_n 1, 1) := by decide +kernel
theorem k164_1 : decode (mB 164) 1 = .ok (.invokestatic 63, 3) ∧ tM (mO 164) 63 = none ∧ tS (mO 164) 63 = some 160 := by decide +kernel
theorem k164_4 : decode (mB 164) 4 = .ok (.ifCond .ne 6, 3) := by decide +kernel
theorem k164_7 : decode (mB 164) 7 = .ok (.ldc 67, 2) ∧ tK (mO 164) 67 = some (-1000001) := by decide +kernel
theorem k164_9 : decode (mB 164) 9 = .ok (.ireturn, 1) ∧ mR 164 = (some .int) := by decide +kernel
theorem k164_10 : decode (mB 164) 10 = .ok (.aload_n 0, 1) := by decide +kernel
theorem k164_11 : decode (mB 164) 11 = .ok (.iload_n 1, 1) := by decide +kernel
theorem k164_12 : decode (mB 164) 12 = .ok (.invokevirtual 75, 3) ∧ tVn (mO 164) 75 = some 1 ∧ tV (mO 164) 75 11 = some 161 := by decide +kernel
theorem k164_15 : decode (mB 164) 15 = .ok (.ifCond .eq 9, 3) := by decide +kernel
theorem k164_18 : decode (mB 164) 18 = .ok (.aload_n 0, 1) := by decide +kernel
theorem k164_19 : decode (mB 164) 19 = .ok (.iconst 1, 1) := by decide +kernel
theorem k164_20 : decode (mB 164) 20 = .ok (.invokevirtual 68, 3) ∧ tVn (mO 164) 68 = some 1 ∧ tV (mO 164) 68 11 = some 157 := by decide +kernel
theorem k164_23 : decode (mB 164) 23 = .ok (.ireturn, 1) ∧ mR 164 = (some .int) := by decide +kernel
theorem k164_24 : decode (mB 164) 24 = .ok (.iload_n 2, 1) := by decide +kernel
theorem k164_25 : decode (mB 164) 25 = .ok (.iconst 0, 1) := by decide +kernel
theorem k164_26 : decode (mB 164) 26 = .ok (.aload_n 0, 1) := by decide +kernel
theorem k164_27 : decode (mB 164) 27 = .ok (.getfield 13, 3) ∧ tF (mO 164) 13 = some (11, 1, 1, 1) := by decide +kernel
theorem k164_30 : decode (mB 164) 30 = .ok (.iload_n 1, 1) := by decide +kernel
theorem k164_31 : decode (mB 164) 31 = .ok (.iaload, 1) := by decide +kernel
theorem k164_32 : decode (mB 164) 32 = .ok (.iconst 1, 1) := by decide +kernel
theorem k164_33 : decode (mB 164) 33 = .ok (.isub, 1) := by decide +kernel
theorem k164_34 : decode (mB 164) 34 = .ok (.invokestatic 59, 3) ∧ tM (mO 164) 59 = none ∧ tS (mO 164) 59 = some 155 := by decide +kernel
theorem k164_37 : decode (mB 164) 37 = .ok (.ifCond .ne 9, 3) := by decide +kernel
theorem k164_40 : decode (mB 164) 40 = .ok (.aload_n 0, 1) := by decide +kernel
theorem k164_41 : decode (mB 164) 41 = .ok (.iconst 2, 1) := by decide +kernel
theorem k164_42 : decode (mB 164) 42 = .ok (.invokevirtual 68, 3) ∧ tVn (mO 164) 68 = some 1 ∧ tV (mO 164) 68 11 = some 157 := by decide +kernel
theorem k164_45 : decode (mB 164) 45 = .ok (.ireturn, 1) ∧ mR 164 = (some .int) := by decide +kernel
theorem k164_46 : decode (mB 164) 46 = .ok (.aload_n 0, 1) := by decide +kernel
theorem k164_47 : decode (mB 164) 47 = .ok (.getfield 16, 3) ∧ tF (mO 164) 16 = some (11, 2, 1, 1) := by decide +kernel
theorem k164_50 : decode (mB 164) 50 = .ok (.bipush 40, 2) := by decide +kernel
theorem k164_52 : decode (mB 164) 52 = .ok (.iload_n 1, 1) := by decide +kernel
theorem k164_53 : decode (mB 164) 53 = .ok (.imul, 1) := by decide +kernel
theorem k164_54 : decode (mB 164) 54 = .ok (.iload_n 2, 1) := by decide +kernel
theorem k164_55 : decode (mB 164) 55 = .ok (.iadd, 1) := by decide +kernel
theorem k164_56 : decode (mB 164) 56 = .ok (.aload_n 0, 1) := by decide +kernel
theorem k164_57 : decode (mB 164) 57 = .ok (.getfield 7, 3) ∧ tF (mO 164) 7 = some (11, 0, 1, 1) := by decide +kernel
theorem k164_60 : decode (mB 164) 60 = .ok (.iload_n 1, 1) := by decide +kernel
theorem k164_61 : decode (mB 164) 61 = .ok (.iaload, 1) := by decide +kernel
theorem k164_62 : decode (mB 164) 62 = .ok (.iload_n 3, 1) := by decide +kernel
theorem k164_63 : decode (mB 164) 63 = .ok (.invokestatic 78, 3) ∧ tM (mO 164) 78 = none ∧ tS (mO 164) 78 = some 162 := by decide +kernel
theorem k164_66 : decode (mB 164) 66 = .ok (.iastore, 1) := by decide +kernel
theorem k164_67 : decode (mB 164) 67 = .ok (.aload_n 0, 1) := by decide +kernel
theorem k164_68 : decode (mB 164) 68 = .ok (.aload_n 0, 1) := by decide +kernel
theorem k164_69 : decode (mB 164) 69 = .ok (.getfield 16, 3) ∧ tF (mO 164) 16 = some (11, 2, 1, 1) := by decide +kernel
theorem k164_72 : decode (mB 164) 72 = .ok (.bipush 40, 2) := by decide +kernel
theorem k164_74 : decode (mB 164) 74 = .ok (.iload_n 1, 1) := by decide +kernel
theorem k164_75 : decode (mB 164) 75 = .ok (.imul, 1) := by decide +kernel
theorem k164_76 : decode (mB 164) 76 = .ok (.iload_n 2, 1) := by decide +kernel
theorem k164_77 : decode (mB 164) 77 = .ok (.iadd, 1) := by decide +kernel
theorem k164_78 : decode (mB 164) 78 = .ok (.iaload, 1) := by decide +kernel
theorem k164_79 : decode (mB 164) 79 = .ok (.invokevirtual 72, 3) ∧ tVn (mO 164) 72 = some 1 ∧ tV (mO 164) 72 11 = some 158 := by decide +kernel
theorem k164_82 : decode (mB 164) 82 = .ok (.ireturn, 1) ∧ mR 164 = (some .int) := by decide +kernel
-- 165: ChairPastModel.isPart:(III)Z, locals 4
theorem l165 : mL 165 = 4 := by decide +kernel
theorem k165_0 : decode (mB 165) 0 = .ok (.iload_n 2, 1) := by decide +kernel
theorem k165_1 : decode (mB 165) 1 = .ok (.ifCond .lt 33, 3) := by decide +kernel
theorem k165_4 : decode (mB 165) 4 = .ok (.iload_n 3, 1) := by decide +kernel
theorem k165_5 : decode (mB 165) 5 = .ok (.ifCond .lt 29, 3) := by decide +kernel
theorem k165_8 : decode (mB 165) 8 = .ok (.iload_n 2, 1) := by decide +kernel
theorem k165_9 : decode (mB 165) 9 = .ok (.aload_n 0, 1) := by decide +kernel
theorem k165_10 : decode (mB 165) 10 = .ok (.getfield 13, 3) ∧ tF (mO 165) 13 = some (11, 1, 1, 1) := by decide +kernel
theorem k165_13 : decode (mB 165) 13 = .ok (.iload_n 1, 1) := by decide +kernel
theorem k165_14 : decode (mB 165) 14 = .ok (.iaload, 1) := by decide +kernel
theorem k165_15 : decode (mB 165) 15 = .ok (.if_icmp .gt 19, 3) := by decide +kernel
theorem k165_18 : decode (mB 165) 18 = .ok (.iload_n 3, 1) := by decide +kernel
theorem k165_19 : decode (mB 165) 19 = .ok (.aload_n 0, 1) := by decide +kernel
theorem k165_20 : decode (mB 165) 20 = .ok (.getfield 13, 3) ∧ tF (mO 165) 13 = some (11, 1, 1, 1) := by decide +kernel
theorem k165_23 : decode (mB 165) 23 = .ok (.iload_n 1, 1) := by decide +kernel
theorem k165_24 : decode (mB 165) 24 = .ok (.iaload, 1) := by decide +kernel
theorem k165_25 : decode (mB 165) 25 = .ok (.iload_n 2, 1) := by decide +kernel
theorem k165_26 : decode (mB 165) 26 = .ok (.isub, 1) := by decide +kernel
theorem k165_27 : decode (mB 165) 27 = .ok (.if_icmp .gt 7, 3) := by decide +kernel
theorem k165_30 : decode (mB 165) 30 = .ok (.iconst 1, 1) := by decide +kernel
theorem k165_31 : decode (mB 165) 31 = .ok (.goto 4, 3) := by decide +kernel
theorem k165_34 : decode (mB 165) 34 = .ok (.iconst 0, 1) := by decide +kernel
theorem k165_35 : decode (mB 165) 35 = .ok (.ireturn, 1) ∧ mR 165 = (some .boolean) := by decide +kernel
-- 166: ChairPastModel.copy:(IIIII)I, locals 7
theorem l166 : mL 166 = 7 := by decide +kernel
theorem k166_0 : decode (mB 166) 0 = .ok (.iload_n 1, 1) := by decide +kernel
theorem k166_1 : decode (mB 166) 1 = .ok (.invokestatic 63, 3) ∧ tM (mO 166) 63 = none ∧ tS (mO 166) 63 = some 160 := by decide +kernel
theorem k166_4 : decode (mB 166) 4 = .ok (.ifCond .eq 10, 3) := by decide +kernel
theorem k166_7 : decode (mB 166) 7 = .ok (.iload_n 3, 1) := by decide +kernel
theorem k166_8 : decode (mB 166) 8 = .ok (.invokestatic 63, 3) ∧ tM (mO 166) 63 = none ∧ tS (mO 166) 63 = some 160 := by decide +kernel
theorem k166_11 : decode (mB 166) 11 = .ok (.ifCond .ne 6, 3) := by decide +kernel
theorem k166_14 : decode (mB 166) 14 = .ok (.ldc 67, 2) ∧ tK (mO 166) 67 = some (-1000001) := by decide +kernel
theorem k166_16 : decode (mB 166) 16 = .ok (.ireturn, 1) ∧ mR 166 = (some .int) := by decide +kernel
theorem k166_17 : decode (mB 166) 17 = .ok (.aload_n 0, 1) := by decide +kernel
theorem k166_18 : decode (mB 166) 18 = .ok (.iload_n 1, 1) := by decide +kernel
theorem k166_19 : decode (mB 166) 19 = .ok (.invokevirtual 75, 3) ∧ tVn (mO 166) 75 = some 1 ∧ tV (mO 166) 75 11 = some 161 := by decide +kernel
theorem k166_22 : decode (mB 166) 22 = .ok (.ifCond .ne 11, 3) := by decide +kernel
theorem k166_25 : decode (mB 166) 25 = .ok (.aload_n 0, 1) := by decide +kernel
theorem k166_26 : decode (mB 166) 26 = .ok (.iload_n 3, 1) := by decide +kernel
theorem k166_27 : decode (mB 166) 27 = .ok (.invokevirtual 75, 3) ∧ tVn (mO 166) 75 = some 1 ∧ tV (mO 166) 75 11 = some 161 := by decide +kernel
theorem k166_30 : decode (mB 166) 30 = .ok (.ifCond .eq 9, 3) := by decide +kernel
theorem k166_33 : decode (mB 166) 33 = .ok (.aload_n 0, 1) := by decide +kernel
theorem k166_34 : decode (mB 166) 34 = .ok (.iconst 1, 1) := by decide +kernel
theorem k166_35 : decode (mB 166) 35 = .ok (.invokevirtual 68, 3) ∧ tVn (mO 166) 68 = some 1 ∧ tV (mO 166) 68 11 = some 157 := by decide +kernel
theorem k166_38 : decode (mB 166) 38 = .ok (.ireturn, 1) ∧ mR 166 = (some .int) := by decide +kernel
theorem k166_39 : decode (mB 166) 39 = .ok (.aload_n 0, 1) := by decide +kernel
theorem k166_40 : decode (mB 166) 40 = .ok (.getfield 7, 3) ∧ tF (mO 166) 7 = some (11, 0, 1, 1) := by decide +kernel
theorem k166_43 : decode (mB 166) 43 = .ok (.iload_n 1, 1) := by decide +kernel
theorem k166_44 : decode (mB 166) 44 = .ok (.iaload, 1) := by decide +kernel
theorem k166_45 : decode (mB 166) 45 = .ok (.aload_n 0, 1) := by decide +kernel
theorem k166_46 : decode (mB 166) 46 = .ok (.getfield 7, 3) ∧ tF (mO 166) 7 = some (11, 0, 1, 1) := by decide +kernel
theorem k166_49 : decode (mB 166) 49 = .ok (.iload_n 3, 1) := by decide +kernel
theorem k166_50 : decode (mB 166) 50 = .ok (.iaload, 1) := by decide +kernel
theorem k166_51 : decode (mB 166) 51 = .ok (.if_icmp .eq 9, 3) := by decide +kernel
theorem k166_54 : decode (mB 166) 54 = .ok (.aload_n 0, 1) := by decide +kernel
theorem k166_55 : decode (mB 166) 55 = .ok (.iconst 5, 1) := by decide +kernel
theorem k166_56 : decode (mB 166) 56 = .ok (.invokevirtual 68, 3) ∧ tVn (mO 166) 68 = some 1 ∧ tV (mO 166) 68 11 = some 157 := by decide +kernel
theorem k166_59 : decode (mB 166) 59 = .ok (.ireturn, 1) ∧ mR 166 = (some .int) := by decide +kernel
theorem k166_60 : decode (mB 166) 60 = .ok (.aload_n 0, 1) := by decide +kernel
theorem k166_61 : decode (mB 166) 61 = .ok (.iload_n 1, 1) := by decide +kernel
theorem k166_62 : decode (mB 166) 62 = .ok (.iload_n 2, 1) := by decide +kernel
theorem k166_63 : decode (mB 166) 63 = .ok (.iload 5, 2) := by decide +kernel
theorem k166_65 : decode (mB 166) 65 = .ok (.invokevirtual 82, 3) ∧ tVn (mO 166) 82 = some 3 ∧ tV (mO 166) 82 11 = some 165 := by decide +kernel
theorem k166_68 : decode (mB 166) 68 = .ok (.ifCond .eq 15, 3) := by decide +kernel
theorem k166_71 : decode (mB 166) 71 = .ok (.aload_n 0, 1) := by decide +kernel
theorem k166_72 : decode (mB 166) 72 = .ok (.iload_n 3, 1) := by decide +kernel
theorem k166_73 : decode (mB 166) 73 = .ok (.iload 4, 2) := by decide +kernel
theorem k166_75 : decode (mB 166) 75 = .ok (.iload 5, 2) := by decide +kernel
theorem k166_77 : decode (mB 166) 77 = .ok (.invokevirtual 82, 3) ∧ tVn (mO 166) 82 = some 3 ∧ tV (mO 166) 82 11 = some 165 := by decide +kernel
theorem k166_80 : decode (mB 166) 80 = .ok (.ifCond .ne 9, 3) := by decide +kernel
theorem k166_83 : decode (mB 166) 83 = .ok (.aload_n 0, 1) := by decide +kernel
theorem k166_84 : decode (mB 166) 84 = .ok (.iconst 2, 1) := by decide +kernel
theorem k166_85 : decode (mB 166) 85 = .ok (.invokevirtual 68, 3) ∧ tVn (mO 166) 68 = some 1 ∧ tV (mO 166) 68 11 = some 157 := by decide +kernel
theorem k166_88 : decode (mB 166) 88 = .ok (.ireturn, 1) ∧ mR 166 = (some .int) := by decide +kernel
theorem k166_89 : decode (mB 166) 89 = .ok (.iconst 0, 1) := by decide +kernel
theorem k166_90 : decode (mB 166) 90 = .ok (.istore 6, 2) := by decide +kernel
theorem k166_92 : decode (mB 166) 92 = .ok (.iload 6, 2) := by decide +kernel
theorem k166_94 : decode (mB 166) 94 = .ok (.iload 5, 2) := by decide +kernel
theorem k166_96 : decode (mB 166) 96 = .ok (.if_icmp .ge 30, 3) := by decide +kernel
theorem k166_99 : decode (mB 166) 99 = .ok (.aload_n 0, 1) := by decide +kernel
theorem k166_100 : decode (mB 166) 100 = .ok (.getfield 19, 3) ∧ tF (mO 166) 19 = some (11, 3, 1, 1) := by decide +kernel
theorem k166_103 : decode (mB 166) 103 = .ok (.iload 6, 2) := by decide +kernel
theorem k166_105 : decode (mB 166) 105 = .ok (.aload_n 0, 1) := by decide +kernel
theorem k166_106 : decode (mB 166) 106 = .ok (.getfield 16, 3) ∧ tF (mO 166) 16 = some (11, 2, 1, 1) := by decide +kernel
theorem k166_109 : decode (mB 166) 109 = .ok (.bipush 40, 2) := by decide +kernel
theorem k166_111 : decode (mB 166) 111 = .ok (.iload_n 1, 1) := by decide +kernel
theorem k166_112 : decode (mB 166) 112 = .ok (.imul, 1) := by decide +kernel
theorem k166_113 : decode (mB 166) 113 = .ok (.iload_n 2, 1) := by decide +kernel
theorem k166_114 : decode (mB 166) 114 = .ok (.iadd, 1) := by decide +kernel
theorem k166_115 : decode (mB 166) 115 = .ok (.iload 6, 2) := by decide +kernel
theorem k166_117 : decode (mB 166) 117 = .ok (.iadd, 1) := by decide +kernel
theorem k166_118 : decode (mB 166) 118 = .ok (.iaload, 1) := by decide +kernel
theorem k166_119 : decode (mB 166) 119 = .ok (.iastore, 1) := by decide +kernel
theorem k166_120 : decode (mB 166) 120 = .ok (.iinc 6 1, 3) := by decide +kernel
theorem k166_123 : decode (mB 166) 123 = .ok (.goto (-31), 3) := by decide +kernel
theorem k166_126 : decode (mB 166) 126 = .ok (.iconst 0, 1) := by decide +kernel
theorem k166_127 : decode (mB 166) 127 = .ok (.istore 6, 2) := by decide +kernel
theorem k166_129 : decode (mB 166) 129 = .ok (.iload 6, 2) := by decide +kernel
theorem k166_131 : decode (mB 166) 131 = .ok (.iload 5, 2) := by decide +kernel
theorem k166_133 : decode (mB 166) 133 = .ok (.if_icmp .ge 31, 3) := by decide +kernel
theorem k166_136 : decode (mB 166) 136 = .ok (.aload_n 0, 1) := by decide +kernel
theorem k166_137 : decode (mB 166) 137 = .ok (.getfield 16, 3) ∧ tF (mO 166) 16 = some (11, 2, 1, 1) := by decide +kernel
theorem k166_140 : decode (mB 166) 140 = .ok (.bipush 40, 2) := by decide +kernel
theorem k166_142 : decode (mB 166) 142 = .ok (.iload_n 3, 1) := by decide +kernel
theorem k166_143 : decode (mB 166) 143 = .ok (.imul, 1) := by decide +kernel
theorem k166_144 : decode (mB 166) 144 = .ok (.iload 4, 2) := by decide +kernel
theorem k166_146 : decode (mB 166) 146 = .ok (.iadd, 1) := by decide +kernel
theorem k166_147 : decode (mB 166) 147 = .ok (.iload 6, 2) := by decide +kernel
theorem k166_149 : decode (mB 166) 149 = .ok (.iadd, 1) := by decide +kernel
theorem k166_150 : decode (mB 166) 150 = .ok (.aload_n 0, 1) := by decide +kernel
theorem k166_151 : decode (mB 166) 151 = .ok (.getfield 19, 3) ∧ tF (mO 166) 19 = some (11, 3, 1, 1) := by decide +kernel
theorem k166_154 : decode (mB 166) 154 = .ok (.iload 6, 2) := by decide +kernel
theorem k166_156 : decode (mB 166) 156 = .ok (.iaload, 1) := by decide +kernel
theorem k166_157 : decode (mB 166) 157 = .ok (.iastore, 1) := by decide +kernel
theorem k166_158 : decode (mB 166) 158 = .ok (.iinc 6 1, 3) := by decide +kernel
theorem k166_161 : decode (mB 166) 161 = .ok (.goto (-32), 3) := by decide +kernel
theorem k166_164 : decode (mB 166) 164 = .ok (.aload_n 0, 1) := by decide +kernel
theorem k166_165 : decode (mB 166) 165 = .ok (.iload 5, 2) := by decide +kernel
theorem k166_167 : decode (mB 166) 167 = .ok (.invokevirtual 72, 3) ∧ tVn (mO 166) 72 = some 1 ∧ tV (mO 166) 72 11 = some 158 := by decide +kernel
theorem k166_170 : decode (mB 166) 170 = .ok (.ireturn, 1) ∧ mR 166 = (some .int) := by decide +kernel
-- 167: ChairPastModel.drop:(I)I, locals 2
theorem l167 : mL 167 = 2 := by decide +kernel
theorem k167_0 : decode (mB 167) 0 = .ok (.iload_n 1, 1) := by decide +kernel
theorem k167_1 : decode (mB 167) 1 = .ok (.invokestatic 63, 3) ∧ tM (mO 167) 63 = none ∧ tS (mO 167) 63 = some 160 := by decide +kernel
theorem k167_4 : decode (mB 167) 4 = .ok (.ifCond .ne 6, 3) := by decide +kernel
theorem k167_7 : decode (mB 167) 7 = .ok (.ldc 67, 2) ∧ tK (mO 167) 67 = some (-1000001) := by decide +kernel
theorem k167_9 : decode (mB 167) 9 = .ok (.ireturn, 1) ∧ mR 167 = (some .int) := by decide +kernel
theorem k167_10 : decode (mB 167) 10 = .ok (.aload_n 0, 1) := by decide +kernel
theorem k167_11 : decode (mB 167) 11 = .ok (.iload_n 1, 1) := by decide +kernel
theorem k167_12 : decode (mB 167) 12 = .ok (.invokevirtual 75, 3) ∧ tVn (mO 167) 75 = some 1 ∧ tV (mO 167) 75 11 = some 161 := by decide +kernel
theorem k167_15 : decode (mB 167) 15 = .ok (.ifCond .eq 9, 3) := by decide +kernel
theorem k167_18 : decode (mB 167) 18 = .ok (.aload_n 0, 1) := by decide +kernel
theorem k167_19 : decode (mB 167) 19 = .ok (.iconst 1, 1) := by decide +kernel
theorem k167_20 : decode (mB 167) 20 = .ok (.invokevirtual 68, 3) ∧ tVn (mO 167) 68 = some 1 ∧ tV (mO 167) 68 11 = some 157 := by decide +kernel
theorem k167_23 : decode (mB 167) 23 = .ok (.ireturn, 1) ∧ mR 167 = (some .int) := by decide +kernel
theorem k167_24 : decode (mB 167) 24 = .ok (.aload_n 0, 1) := by decide +kernel
theorem k167_25 : decode (mB 167) 25 = .ok (.getfield 7, 3) ∧ tF (mO 167) 7 = some (11, 0, 1, 1) := by decide +kernel
theorem k167_28 : decode (mB 167) 28 = .ok (.iload_n 1, 1) := by decide +kernel
theorem k167_29 : decode (mB 167) 29 = .ok (.ldc 53, 2) ∧ tK (mO 167) 53 = some (-1000000) := by decide +kernel
theorem k167_31 : decode (mB 167) 31 = .ok (.iastore, 1) := by decide +kernel
theorem k167_32 : decode (mB 167) 32 = .ok (.aload_n 0, 1) := by decide +kernel
theorem k167_33 : decode (mB 167) 33 = .ok (.aload_n 0, 1) := by decide +kernel
theorem k167_34 : decode (mB 167) 34 = .ok (.getfield 13, 3) ∧ tF (mO 167) 13 = some (11, 1, 1, 1) := by decide +kernel
theorem k167_37 : decode (mB 167) 37 = .ok (.iload_n 1, 1) := by decide +kernel
theorem k167_38 : decode (mB 167) 38 = .ok (.iaload, 1) := by decide +kernel
theorem k167_39 : decode (mB 167) 39 = .ok (.invokevirtual 72, 3) ∧ tVn (mO 167) 72 = some 1 ∧ tV (mO 167) 72 11 = some 158 := by decide +kernel
theorem k167_42 : decode (mB 167) 42 = .ok (.ireturn, 1) ∧ mR 167 = (some .int) := by decide +kernel
-- 168: ChairPastModel.feed:(I)I, locals 2
theorem l168 : mL 168 = 2 := by decide +kernel
theorem k168_0 : decode (mB 168) 0 = .ok (.iload_n 1, 1) := by decide +kernel
theorem k168_1 : decode (mB 168) 1 = .ok (.iconst 0, 1) := by decide +kernel
theorem k168_2 : decode (mB 168) 2 = .ok (.sipush 255, 3) := by decide +kernel
theorem k168_5 : decode (mB 168) 5 = .ok (.invokestatic 59, 3) ∧ tM (mO 168) 59 = none ∧ tS (mO 168) 59 = some 155 := by decide +kernel
theorem k168_8 : decode (mB 168) 8 = .ok (.ifCond .ne 6, 3) := by decide +kernel
theorem k168_11 : decode (mB 168) 11 = .ok (.ldc 67, 2) ∧ tK (mO 168) 67 = some (-1000001) := by decide +kernel
theorem k168_13 : decode (mB 168) 13 = .ok (.ireturn, 1) ∧ mR 168 = (some .int) := by decide +kernel
theorem k168_14 : decode (mB 168) 14 = .ok (.aload_n 0, 1) := by decide +kernel
theorem k168_15 : decode (mB 168) 15 = .ok (.getfield 85, 3) ∧ tF (mO 168) 85 = some (11, 6, 0, 0) := by decide +kernel
theorem k168_18 : decode (mB 168) 18 = .ok (.bipush 100, 2) := by decide +kernel
theorem k168_20 : decode (mB 168) 20 = .ok (.if_icmp .ne 6, 3) := by decide +kernel
theorem k168_23 : decode (mB 168) 23 = .ok (.ldc 88, 2) ∧ tK (mO 168) 88 = some (-1000003) := by decide +kernel
theorem k168_25 : decode (mB 168) 25 = .ok (.ireturn, 1) ∧ mR 168 = (some .int) := by decide +kernel
theorem k168_26 : decode (mB 168) 26 = .ok (.aload_n 0, 1) := by decide +kernel
theorem k168_27 : decode (mB 168) 27 = .ok (.getfield 22, 3) ∧ tF (mO 168) 22 = some (11, 5, 1, 1) := by decide +kernel
theorem k168_30 : decode (mB 168) 30 = .ok (.aload_n 0, 1) := by decide +kernel
theorem k168_31 : decode (mB 168) 31 = .ok (.getfield 85, 3) ∧ tF (mO 168) 85 = some (11, 6, 0, 0) := by decide +kernel
theorem k168_34 : decode (mB 168) 34 = .ok (.iload_n 1, 1) := by decide +kernel
theorem k168_35 : decode (mB 168) 35 = .ok (.iastore, 1) := by decide +kernel
theorem k168_36 : decode (mB 168) 36 = .ok (.aload_n 0, 1) := by decide +kernel
theorem k168_37 : decode (mB 168) 37 = .ok (.dup, 1) := by decide +kernel
theorem k168_38 : decode (mB 168) 38 = .ok (.getfield 85, 3) ∧ tF (mO 168) 85 = some (11, 6, 0, 0) := by decide +kernel
theorem k168_41 : decode (mB 168) 41 = .ok (.iconst 1, 1) := by decide +kernel
theorem k168_42 : decode (mB 168) 42 = .ok (.iadd, 1) := by decide +kernel
theorem k168_43 : decode (mB 168) 43 = .ok (.putfield 85, 3) ∧ tF (mO 168) 85 = some (11, 6, 0, 0) := by decide +kernel
theorem k168_46 : decode (mB 168) 46 = .ok (.aload_n 0, 1) := by decide +kernel
theorem k168_47 : decode (mB 168) 47 = .ok (.getfield 85, 3) ∧ tF (mO 168) 85 = some (11, 6, 0, 0) := by decide +kernel
theorem k168_50 : decode (mB 168) 50 = .ok (.ireturn, 1) ∧ mR 168 = (some .int) := by decide +kernel
-- 169: ChairPastModel.byteAt:(I)I, locals 2
theorem l169 : mL 169 = 2 := by decide +kernel
theorem k169_0 : decode (mB 169) 0 = .ok (.iload_n 1, 1) := by decide +kernel
theorem k169_1 : decode (mB 169) 1 = .ok (.aload_n 0, 1) := by decide +kernel
theorem k169_2 : decode (mB 169) 2 = .ok (.getfield 85, 3) ∧ tF (mO 169) 85 = some (11, 6, 0, 0) := by decide +kernel
theorem k169_5 : decode (mB 169) 5 = .ok (.if_icmp .ge 12, 3) := by decide +kernel
theorem k169_8 : decode (mB 169) 8 = .ok (.aload_n 0, 1) := by decide +kernel
theorem k169_9 : decode (mB 169) 9 = .ok (.getfield 22, 3) ∧ tF (mO 169) 22 = some (11, 5, 1, 1) := by decide +kernel
theorem k169_12 : decode (mB 169) 12 = .ok (.iload_n 1, 1) := by decide +kernel
theorem k169_13 : decode (mB 169) 13 = .ok (.iaload, 1) := by decide +kernel
theorem k169_14 : decode (mB 169) 14 = .ok (.goto 4, 3) := by decide +kernel
theorem k169_17 : decode (mB 169) 17 = .ok (.iconst (-1), 1) := by decide +kernel
theorem k169_18 : decode (mB 169) 18 = .ok (.ireturn, 1) ∧ mR 169 = (some .int) := by decide +kernel
