-- 191: ChairPastModel.notes:()V, locals 2
theorem l191 : mL 191 = 2 := by decide +kernel
theorem k191_0 : decode (mB 191) 0 = .ok (.aload_n 0, 1) := by decide +kernel
theorem k191_1 : decode (mB 191) 1 = .ok (.getfield 145, 3) ∧ tF (mO 191) 145 = some (11, 17, 0, 0) := by decide +kernel
theorem k191_4 : decode (mB 191) 4 = .ok (.bipush 24, 2) := by decide +kernel
theorem k191_6 : decode (mB 191) 6 = .ok (.if_icmp .ne 43, 3) := by decide +kernel
theorem k191_9 : decode (mB 191) 9 = .ok (.iconst 0, 1) := by decide +kernel
theorem k191_10 : decode (mB 191) 10 = .ok (.istore_n 1, 1) := by decide +kernel
theorem k191_11 : decode (mB 191) 11 = .ok (.iload_n 1, 1) := by decide +kernel
theorem k191_12 : decode (mB 191) 12 = .ok (.sipush 1104, 3) := by decide +kernel
theorem k191_15 : decode (mB 191) 15 = .ok (.if_icmp .ge 24, 3) := by decide +kernel
theorem k191_18 : decode (mB 191) 18 = .ok (.aload_n 0, 1) := by decide +kernel
theorem k191_19 : decode (mB 191) 19 = .ok (.getfield 34, 3) ∧ tF (mO 191) 34 = some (11, 16, 1, 1) := by decide +kernel
theorem k191_22 : decode (mB 191) 22 = .ok (.iload_n 1, 1) := by decide +kernel
theorem k191_23 : decode (mB 191) 23 = .ok (.aload_n 0, 1) := by decide +kernel
theorem k191_24 : decode (mB 191) 24 = .ok (.getfield 34, 3) ∧ tF (mO 191) 34 = some (11, 16, 1, 1) := by decide +kernel
theorem k191_27 : decode (mB 191) 27 = .ok (.iload_n 1, 1) := by decide +kernel
theorem k191_28 : decode (mB 191) 28 = .ok (.bipush 48, 2) := by decide +kernel
theorem k191_30 : decode (mB 191) 30 = .ok (.iadd, 1) := by decide +kernel
theorem k191_31 : decode (mB 191) 31 = .ok (.iaload, 1) := by decide +kernel
theorem k191_32 : decode (mB 191) 32 = .ok (.iastore, 1) := by decide +kernel
theorem k191_33 : decode (mB 191) 33 = .ok (.iinc 1 1, 3) := by decide +kernel
theorem k191_36 : decode (mB 191) 36 = .ok (.goto (-25), 3) := by decide +kernel
theorem k191_39 : decode (mB 191) 39 = .ok (.aload_n 0, 1) := by decide +kernel
theorem k191_40 : decode (mB 191) 40 = .ok (.dup, 1) := by decide +kernel
theorem k191_41 : decode (mB 191) 41 = .ok (.getfield 145, 3) ∧ tF (mO 191) 145 = some (11, 17, 0, 0) := by decide +kernel
theorem k191_44 : decode (mB 191) 44 = .ok (.iconst 1, 1) := by decide +kernel
theorem k191_45 : decode (mB 191) 45 = .ok (.isub, 1) := by decide +kernel
theorem k191_46 : decode (mB 191) 46 = .ok (.putfield 145, 3) ∧ tF (mO 191) 145 = some (11, 17, 0, 0) := by decide +kernel
theorem k191_49 : decode (mB 191) 49 = .ok (.aload_n 0, 1) := by decide +kernel
theorem k191_50 : decode (mB 191) 50 = .ok (.getfield 25, 3) ∧ tF (mO 191) 25 = some (11, 13, 1, 1) := by decide +kernel
theorem k191_53 : decode (mB 191) 53 = .ok (.iconst 0, 1) := by decide +kernel
theorem k191_54 : decode (mB 191) 54 = .ok (.aload_n 0, 1) := by decide +kernel
theorem k191_55 : decode (mB 191) 55 = .ok (.getfield 34, 3) ∧ tF (mO 191) 34 = some (11, 16, 1, 1) := by decide +kernel
theorem k191_58 : decode (mB 191) 58 = .ok (.bipush 48, 2) := by decide +kernel
theorem k191_60 : decode (mB 191) 60 = .ok (.aload_n 0, 1) := by decide +kernel
theorem k191_61 : decode (mB 191) 61 = .ok (.getfield 145, 3) ∧ tF (mO 191) 145 = some (11, 17, 0, 0) := by decide +kernel
theorem k191_64 : decode (mB 191) 64 = .ok (.imul, 1) := by decide +kernel
theorem k191_65 : decode (mB 191) 65 = .ok (.invokestatic 141, 3) ∧ tM (mO 191) 141 = none ∧ tS (mO 191) 141 = some 159 := by decide +kernel
theorem k191_68 : decode (mB 191) 68 = .ok (.aload_n 0, 1) := by decide +kernel
theorem k191_69 : decode (mB 191) 69 = .ok (.dup, 1) := by decide +kernel
theorem k191_70 : decode (mB 191) 70 = .ok (.getfield 145, 3) ∧ tF (mO 191) 145 = some (11, 17, 0, 0) := by decide +kernel
theorem k191_73 : decode (mB 191) 73 = .ok (.iconst 1, 1) := by decide +kernel
theorem k191_74 : decode (mB 191) 74 = .ok (.iadd, 1) := by decide +kernel
theorem k191_75 : decode (mB 191) 75 = .ok (.putfield 145, 3) ∧ tF (mO 191) 145 = some (11, 17, 0, 0) := by decide +kernel
theorem k191_78 : decode (mB 191) 78 = .ok (.return_, 1) ∧ mR 191 = none := by decide +kernel
-- 192: ChairPastModel.sit:(II)I, locals 3
theorem l192 : mL 192 = 3 := by decide +kernel
theorem k192_0 : decode (mB 192) 0 = .ok (.aload_n 0, 1) := by decide +kernel
theorem k192_1 : decode (mB 192) 1 = .ok (.iload_n 1, 1) := by decide +kernel
theorem k192_2 : decode (mB 192) 2 = .ok (.invokevirtual 167, 3) ∧ tVn (mO 192) 167 = some 1 ∧ tV (mO 192) 167 11 = some 183 := by decide +kernel
theorem k192_5 : decode (mB 192) 5 = .ok (.ifCond .eq 11, 3) := by decide +kernel
theorem k192_8 : decode (mB 192) 8 = .ok (.aload_n 0, 1) := by decide +kernel
theorem k192_9 : decode (mB 192) 9 = .ok (.iload_n 2, 1) := by decide +kernel
theorem k192_10 : decode (mB 192) 10 = .ok (.invokevirtual 170, 3) ∧ tVn (mO 192) 170 = some 1 ∧ tV (mO 192) 170 11 = some 182 := by decide +kernel
theorem k192_13 : decode (mB 192) 13 = .ok (.ifCond .ne 6, 3) := by decide +kernel
theorem k192_16 : decode (mB 192) 16 = .ok (.ldc 67, 2) ∧ tK (mO 192) 67 = some (-1000001) := by decide +kernel
theorem k192_18 : decode (mB 192) 18 = .ok (.ireturn, 1) ∧ mR 192 = (some .int) := by decide +kernel
theorem k192_19 : decode (mB 192) 19 = .ok (.aload_n 0, 1) := by decide +kernel
theorem k192_20 : decode (mB 192) 20 = .ok (.getfield 25, 3) ∧ tF (mO 192) 25 = some (11, 13, 1, 1) := by decide +kernel
theorem k192_23 : decode (mB 192) 23 = .ok (.bipush 28, 2) := by decide +kernel
theorem k192_25 : decode (mB 192) 25 = .ok (.iconst 4, 1) := by decide +kernel
theorem k192_26 : decode (mB 192) 26 = .ok (.iload_n 1, 1) := by decide +kernel
theorem k192_27 : decode (mB 192) 27 = .ok (.imul, 1) := by decide +kernel
theorem k192_28 : decode (mB 192) 28 = .ok (.iadd, 1) := by decide +kernel
theorem k192_29 : decode (mB 192) 29 = .ok (.iconst 2, 1) := by decide +kernel
theorem k192_30 : decode (mB 192) 30 = .ok (.iadd, 1) := by decide +kernel
theorem k192_31 : decode (mB 192) 31 = .ok (.iaload, 1) := by decide +kernel
theorem k192_32 : decode (mB 192) 32 = .ok (.ifCond .gt 16, 3) := by decide +kernel
theorem k192_35 : decode (mB 192) 35 = .ok (.aload_n 0, 1) := by decide +kernel
theorem k192_36 : decode (mB 192) 36 = .ok (.getfield 25, 3) ∧ tF (mO 192) 25 = some (11, 13, 1, 1) := by decide +kernel
theorem k192_39 : decode (mB 192) 39 = .ok (.iload_n 2, 1) := by decide +kernel
theorem k192_40 : decode (mB 192) 40 = .ok (.invokestatic 159, 3) ∧ tM (mO 192) 159 = none ∧ tS (mO 192) 159 = some 187 := by decide +kernel
theorem k192_43 : decode (mB 192) 43 = .ok (.ldc 53, 2) ∧ tK (mO 192) 53 = some (-1000000) := by decide +kernel
theorem k192_45 : decode (mB 192) 45 = .ok (.if_icmp .eq 6, 3) := by decide +kernel
theorem k192_48 : decode (mB 192) 48 = .ok (.ldc 173, 2) ∧ tK (mO 192) 173 = some (-1000002) := by decide +kernel
theorem k192_50 : decode (mB 192) 50 = .ok (.ireturn, 1) ∧ mR 192 = (some .int) := by decide +kernel
theorem k192_51 : decode (mB 192) 51 = .ok (.aload_n 0, 1) := by decide +kernel
theorem k192_52 : decode (mB 192) 52 = .ok (.invokevirtual 174, 3) ∧ tVn (mO 192) 174 = some 0 ∧ tV (mO 192) 174 11 = some 191 := by decide +kernel
theorem k192_55 : decode (mB 192) 55 = .ok (.aload_n 0, 1) := by decide +kernel
theorem k192_56 : decode (mB 192) 56 = .ok (.getfield 25, 3) ∧ tF (mO 192) 25 = some (11, 13, 1, 1) := by decide +kernel
theorem k192_59 : decode (mB 192) 59 = .ok (.iload_n 1, 1) := by decide +kernel
theorem k192_60 : decode (mB 192) 60 = .ok (.iload_n 2, 1) := by decide +kernel
theorem k192_61 : decode (mB 192) 61 = .ok (.invokestatic 177, 3) ∧ tM (mO 192) 177 = none ∧ tS (mO 192) 177 = some 188 := by decide +kernel
theorem k192_64 : decode (mB 192) 64 = .ok (.aload_n 0, 1) := by decide +kernel
theorem k192_65 : decode (mB 192) 65 = .ok (.getfield 25, 3) ∧ tF (mO 192) 25 = some (11, 13, 1, 1) := by decide +kernel
theorem k192_68 : decode (mB 192) 68 = .ok (.bipush 28, 2) := by decide +kernel
theorem k192_70 : decode (mB 192) 70 = .ok (.iconst 4, 1) := by decide +kernel
theorem k192_71 : decode (mB 192) 71 = .ok (.iload_n 1, 1) := by decide +kernel
theorem k192_72 : decode (mB 192) 72 = .ok (.imul, 1) := by decide +kernel
theorem k192_73 : decode (mB 192) 73 = .ok (.iadd, 1) := by decide +kernel
theorem k192_74 : decode (mB 192) 74 = .ok (.iconst 3, 1) := by decide +kernel
theorem k192_75 : decode (mB 192) 75 = .ok (.iadd, 1) := by decide +kernel
theorem k192_76 : decode (mB 192) 76 = .ok (.iaload, 1) := by decide +kernel
theorem k192_77 : decode (mB 192) 77 = .ok (.ireturn, 1) ∧ mR 192 = (some .int) := by decide +kernel
-- 193: ChairPastModel.rise:(I)I, locals 4
theorem l193 : mL 193 = 4 := by decide +kernel
theorem k193_0 : decode (mB 193) 0 = .ok (.aload_n 0, 1) := by decide +kernel
theorem k193_1 : decode (mB 193) 1 = .ok (.iload_n 1, 1) := by decide +kernel
theorem k193_2 : decode (mB 193) 2 = .ok (.invokevirtual 167, 3) ∧ tVn (mO 193) 167 = some 1 ∧ tV (mO 193) 167 11 = some 183 := by decide +kernel
theorem k193_5 : decode (mB 193) 5 = .ok (.ifCond .ne 6, 3) := by decide +kernel
theorem k193_8 : decode (mB 193) 8 = .ok (.ldc 67, 2) ∧ tK (mO 193) 67 = some (-1000001) := by decide +kernel
theorem k193_10 : decode (mB 193) 10 = .ok (.ireturn, 1) ∧ mR 193 = (some .int) := by decide +kernel
theorem k193_11 : decode (mB 193) 11 = .ok (.bipush 28, 2) := by decide +kernel
theorem k193_13 : decode (mB 193) 13 = .ok (.iconst 4, 1) := by decide +kernel
theorem k193_14 : decode (mB 193) 14 = .ok (.iload_n 1, 1) := by decide +kernel
theorem k193_15 : decode (mB 193) 15 = .ok (.imul, 1) := by decide +kernel
theorem k193_16 : decode (mB 193) 16 = .ok (.iadd, 1) := by decide +kernel
theorem k193_17 : decode (mB 193) 17 = .ok (.iconst 2, 1) := by decide +kernel
theorem k193_18 : decode (mB 193) 18 = .ok (.iadd, 1) := by decide +kernel
theorem k193_19 : decode (mB 193) 19 = .ok (.istore_n 2, 1) := by decide +kernel
theorem k193_20 : decode (mB 193) 20 = .ok (.aload_n 0, 1) := by decide +kernel
theorem k193_21 : decode (mB 193) 21 = .ok (.getfield 25, 3) ∧ tF (mO 193) 25 = some (11, 13, 1, 1) := by decide +kernel
theorem k193_24 : decode (mB 193) 24 = .ok (.iload_n 2, 1) := by decide +kernel
theorem k193_25 : decode (mB 193) 25 = .ok (.iaload, 1) := by decide +kernel
theorem k193_26 : decode (mB 193) 26 = .ok (.ifCond .ne 6, 3) := by decide +kernel
theorem k193_29 : decode (mB 193) 29 = .ok (.ldc 173, 2) ∧ tK (mO 193) 173 = some (-1000002) := by decide +kernel
theorem k193_31 : decode (mB 193) 31 = .ok (.ireturn, 1) ∧ mR 193 = (some .int) := by decide +kernel
theorem k193_32 : decode (mB 193) 32 = .ok (.aload_n 0, 1) := by decide +kernel
theorem k193_33 : decode (mB 193) 33 = .ok (.invokevirtual 174, 3) ∧ tVn (mO 193) 174 = some 0 ∧ tV (mO 193) 174 11 = some 191 := by decide +kernel
theorem k193_36 : decode (mB 193) 36 = .ok (.aload_n 0, 1) := by decide +kernel
theorem k193_37 : decode (mB 193) 37 = .ok (.getfield 25, 3) ∧ tF (mO 193) 25 = some (11, 13, 1, 1) := by decide +kernel
theorem k193_40 : decode (mB 193) 40 = .ok (.iload_n 2, 1) := by decide +kernel
theorem k193_41 : decode (mB 193) 41 = .ok (.iaload, 1) := by decide +kernel
theorem k193_42 : decode (mB 193) 42 = .ok (.iconst 1, 1) := by decide +kernel
theorem k193_43 : decode (mB 193) 43 = .ok (.isub, 1) := by decide +kernel
theorem k193_44 : decode (mB 193) 44 = .ok (.istore_n 3, 1) := by decide +kernel
theorem k193_45 : decode (mB 193) 45 = .ok (.aload_n 0, 1) := by decide +kernel
theorem k193_46 : decode (mB 193) 46 = .ok (.getfield 25, 3) ∧ tF (mO 193) 25 = some (11, 13, 1, 1) := by decide +kernel
theorem k193_49 : decode (mB 193) 49 = .ok (.iload_n 2, 1) := by decide +kernel
theorem k193_50 : decode (mB 193) 50 = .ok (.iconst 0, 1) := by decide +kernel
theorem k193_51 : decode (mB 193) 51 = .ok (.iastore, 1) := by decide +kernel
theorem k193_52 : decode (mB 193) 52 = .ok (.iload_n 3, 1) := by decide +kernel
theorem k193_53 : decode (mB 193) 53 = .ok (.ireturn, 1) ∧ mR 193 = (some .int) := by decide +kernel
-- 194: ChairPastModel.recane:(I)I, locals 3
theorem l194 : mL 194 = 3 := by decide +kernel
theorem k194_0 : decode (mB 194) 0 = .ok (.aload_n 0, 1) := by decide +kernel
theorem k194_1 : decode (mB 194) 1 = .ok (.iload_n 1, 1) := by decide +kernel
theorem k194_2 : decode (mB 194) 2 = .ok (.invokevirtual 170, 3) ∧ tVn (mO 194) 170 = some 1 ∧ tV (mO 194) 170 11 = some 182 := by decide +kernel
theorem k194_5 : decode (mB 194) 5 = .ok (.ifCond .ne 6, 3) := by decide +kernel
theorem k194_8 : decode (mB 194) 8 = .ok (.ldc 67, 2) ∧ tK (mO 194) 67 = some (-1000001) := by decide +kernel
theorem k194_10 : decode (mB 194) 10 = .ok (.ireturn, 1) ∧ mR 194 = (some .int) := by decide +kernel
theorem k194_11 : decode (mB 194) 11 = .ok (.aload_n 0, 1) := by decide +kernel
theorem k194_12 : decode (mB 194) 12 = .ok (.invokevirtual 174, 3) ∧ tVn (mO 194) 174 = some 0 ∧ tV (mO 194) 174 11 = some 191 := by decide +kernel
theorem k194_15 : decode (mB 194) 15 = .ok (.aload_n 0, 1) := by decide +kernel
theorem k194_16 : decode (mB 194) 16 = .ok (.getfield 25, 3) ∧ tF (mO 194) 25 = some (11, 13, 1, 1) := by decide +kernel
theorem k194_19 : decode (mB 194) 19 = .ok (.iconst 3, 1) := by decide +kernel
theorem k194_20 : decode (mB 194) 20 = .ok (.iconst 5, 1) := by decide +kernel
theorem k194_21 : decode (mB 194) 21 = .ok (.iload_n 1, 1) := by decide +kernel
theorem k194_22 : decode (mB 194) 22 = .ok (.imul, 1) := by decide +kernel
theorem k194_23 : decode (mB 194) 23 = .ok (.iadd, 1) := by decide +kernel
theorem k194_24 : decode (mB 194) 24 = .ok (.iconst 2, 1) := by decide +kernel
theorem k194_25 : decode (mB 194) 25 = .ok (.iadd, 1) := by decide +kernel
theorem k194_26 : decode (mB 194) 26 = .ok (.iaload, 1) := by decide +kernel
theorem k194_27 : decode (mB 194) 27 = .ok (.istore_n 2, 1) := by decide +kernel
theorem k194_28 : decode (mB 194) 28 = .ok (.aload_n 0, 1) := by decide +kernel
theorem k194_29 : decode (mB 194) 29 = .ok (.getfield 25, 3) ∧ tF (mO 194) 25 = some (11, 13, 1, 1) := by decide +kernel
theorem k194_32 : decode (mB 194) 32 = .ok (.iconst 3, 1) := by decide +kernel
theorem k194_33 : decode (mB 194) 33 = .ok (.iconst 5, 1) := by decide +kernel
theorem k194_34 : decode (mB 194) 34 = .ok (.iload_n 1, 1) := by decide +kernel
theorem k194_35 : decode (mB 194) 35 = .ok (.imul, 1) := by decide +kernel
theorem k194_36 : decode (mB 194) 36 = .ok (.iadd, 1) := by decide +kernel
theorem k194_37 : decode (mB 194) 37 = .ok (.iconst 2, 1) := by decide +kernel
theorem k194_38 : decode (mB 194) 38 = .ok (.iadd, 1) := by decide +kernel
theorem k194_39 : decode (mB 194) 39 = .ok (.iconst 0, 1) := by decide +kernel
theorem k194_40 : decode (mB 194) 40 = .ok (.iastore, 1) := by decide +kernel
theorem k194_41 : decode (mB 194) 41 = .ok (.iload_n 2, 1) := by decide +kernel
theorem k194_42 : decode (mB 194) 42 = .ok (.ireturn, 1) ∧ mR 194 = (some .int) := by decide +kernel
-- 195: ChairPastModel.move:(I)I, locals 4
theorem l195 : mL 195 = 4 := by decide +kernel
theorem k195_0 : decode (mB 195) 0 = .ok (.aload_n 0, 1) := by decide +kernel
theorem k195_1 : decode (mB 195) 1 = .ok (.iload_n 1, 1) := by decide +kernel
theorem k195_2 : decode (mB 195) 2 = .ok (.invokevirtual 170, 3) ∧ tVn (mO 195) 170 = some 1 ∧ tV (mO 195) 170 11 = some 182 := by decide +kernel
theorem k195_5 : decode (mB 195) 5 = .ok (.ifCond .eq 13, 3) := by decide +kernel
theorem k195_8 : decode (mB 195) 8 = .ok (.aload_n 0, 1) := by decide +kernel
theorem k195_9 : decode (mB 195) 9 = .ok (.iload_n 1, 1) := by decide +kernel
theorem k195_10 : decode (mB 195) 10 = .ok (.iconst 1, 1) := by decide +kernel
theorem k195_11 : decode (mB 195) 11 = .ok (.iadd, 1) := by decide +kernel
theorem k195_12 : decode (mB 195) 12 = .ok (.invokevirtual 170, 3) ∧ tVn (mO 195) 170 = some 1 ∧ tV (mO 195) 170 11 = some 182 := by decide +kernel
theorem k195_15 : decode (mB 195) 15 = .ok (.ifCond .ne 6, 3) := by decide +kernel
theorem k195_18 : decode (mB 195) 18 = .ok (.ldc 67, 2) ∧ tK (mO 195) 67 = some (-1000001) := by decide +kernel
theorem k195_20 : decode (mB 195) 20 = .ok (.ireturn, 1) ∧ mR 195 = (some .int) := by decide +kernel
theorem k195_21 : decode (mB 195) 21 = .ok (.aload_n 0, 1) := by decide +kernel
theorem k195_22 : decode (mB 195) 22 = .ok (.invokevirtual 174, 3) ∧ tVn (mO 195) 174 = some 0 ∧ tV (mO 195) 174 11 = some 191 := by decide +kernel
theorem k195_25 : decode (mB 195) 25 = .ok (.iconst 0, 1) := by decide +kernel
theorem k195_26 : decode (mB 195) 26 = .ok (.istore_n 2, 1) := by decide +kernel
theorem k195_27 : decode (mB 195) 27 = .ok (.iload_n 2, 1) := by decide +kernel
theorem k195_28 : decode (mB 195) 28 = .ok (.iconst 5, 1) := by decide +kernel
theorem k195_29 : decode (mB 195) 29 = .ok (.if_icmp .ge 63, 3) := by decide +kernel
theorem k195_32 : decode (mB 195) 32 = .ok (.aload_n 0, 1) := by decide +kernel
theorem k195_33 : decode (mB 195) 33 = .ok (.getfield 25, 3) ∧ tF (mO 195) 25 = some (11, 13, 1, 1) := by decide +kernel
theorem k195_36 : decode (mB 195) 36 = .ok (.iconst 3, 1) := by decide +kernel
theorem k195_37 : decode (mB 195) 37 = .ok (.iconst 5, 1) := by decide +kernel
theorem k195_38 : decode (mB 195) 38 = .ok (.iload_n 1, 1) := by decide +kernel
theorem k195_39 : decode (mB 195) 39 = .ok (.imul, 1) := by decide +kernel
theorem k195_40 : decode (mB 195) 40 = .ok (.iadd, 1) := by decide +kernel
theorem k195_41 : decode (mB 195) 41 = .ok (.iload_n 2, 1) := by decide +kernel
theorem k195_42 : decode (mB 195) 42 = .ok (.iadd, 1) := by decide +kernel
theorem k195_43 : decode (mB 195) 43 = .ok (.iaload, 1) := by decide +kernel
theorem k195_44 : decode (mB 195) 44 = .ok (.istore_n 3, 1) := by decide +kernel
theorem k195_45 : decode (mB 195) 45 = .ok (.aload_n 0, 1) := by decide +kernel
theorem k195_46 : decode (mB 195) 46 = .ok (.getfield 25, 3) ∧ tF (mO 195) 25 = some (11, 13, 1, 1) := by decide +kernel
theorem k195_49 : decode (mB 195) 49 = .ok (.iconst 3, 1) := by decide +kernel
theorem k195_50 : decode (mB 195) 50 = .ok (.iconst 5, 1) := by decide +kernel
theorem k195_51 : decode (mB 195) 51 = .ok (.iload_n 1, 1) := by decide +kernel
theorem k195_52 : decode (mB 195) 52 = .ok (.imul, 1) := by decide +kernel
theorem k195_53 : decode (mB 195) 53 = .ok (.iadd, 1) := by decide +kernel
theorem k195_54 : decode (mB 195) 54 = .ok (.iload_n 2, 1) := by decide +kernel
theorem k195_55 : decode (mB 195) 55 = .ok (.iadd, 1) := by decide +kernel
theorem k195_56 : decode (mB 195) 56 = .ok (.aload_n 0, 1) := by decide +kernel
theorem k195_57 : decode (mB 195) 57 = .ok (.getfield 25, 3) ∧ tF (mO 195) 25 = some (11, 13, 1, 1) := by decide +kernel
theorem k195_60 : decode (mB 195) 60 = .ok (.iconst 3, 1) := by decide +kernel
theorem k195_61 : decode (mB 195) 61 = .ok (.iconst 5, 1) := by decide +kernel
theorem k195_62 : decode (mB 195) 62 = .ok (.iload_n 1, 1) := by decide +kernel
theorem k195_63 : decode (mB 195) 63 = .ok (.imul, 1) := by decide +kernel
theorem k195_64 : decode (mB 195) 64 = .ok (.iadd, 1) := by decide +kernel
theorem k195_65 : decode (mB 195) 65 = .ok (.iconst 5, 1) := by decide +kernel
theorem k195_66 : decode (mB 195) 66 = .ok (.iadd, 1) := by decide +kernel
theorem k195_67 : decode (mB 195) 67 = .ok (.iload_n 2, 1) := by decide +kernel
theorem k195_68 : decode (mB 195) 68 = .ok (.iadd, 1) := by decide +kernel
theorem k195_69 : decode (mB 195) 69 = .ok (.iaload, 1) := by decide +kernel
theorem k195_70 : decode (mB 195) 70 = .ok (.iastore, 1) := by decide +kernel
theorem k195_71 : decode (mB 195) 71 = .ok (.aload_n 0, 1) := by decide +kernel
theorem k195_72 : decode (mB 195) 72 = .ok (.getfield 25, 3) ∧ tF (mO 195) 25 = some (11, 13, 1, 1) := by decide +kernel
theorem k195_75 : decode (mB 195) 75 = .ok (.iconst 3, 1) := by decide +kernel
theorem k195_76 : decode (mB 195) 76 = .ok (.iconst 5, 1) := by decide +kernel
theorem k195_77 : decode (mB 195) 77 = .ok (.iload_n 1, 1) := by decide +kernel
theorem k195_78 : decode (mB 195) 78 = .ok (.imul, 1) := by decide +kernel
theorem k195_79 : decode (mB 195) 79 = .ok (.iadd, 1) := by decide +kernel
theorem k195_80 : decode (mB 195) 80 = .ok (.iconst 5, 1) := by decide +kernel
theorem k195_81 : decode (mB 195) 81 = .ok (.iadd, 1) := by decide +kernel
theorem k195_82 : decode (mB 195) 82 = .ok (.iload_n 2, 1) := by decide +kernel
theorem k195_83 : decode (mB 195) 83 = .ok (.iadd, 1) := by decide +kernel
theorem k195_84 : decode (mB 195) 84 = .ok (.iload_n 3, 1) := by decide +kernel
theorem k195_85 : decode (mB 195) 85 = .ok (.iastore, 1) := by decide +kernel
theorem k195_86 : decode (mB 195) 86 = .ok (.iinc 2 1, 3) := by decide +kernel
theorem k195_89 : decode (mB 195) 89 = .ok (.goto (-62), 3) := by decide +kernel
theorem k195_92 : decode (mB 195) 92 = .ok (.iconst 0, 1) := by decide +kernel
theorem k195_93 : decode (mB 195) 93 = .ok (.istore_n 2, 1) := by decide +kernel
theorem k195_94 : decode (mB 195) 94 = .ok (.iload_n 2, 1) := by decide +kernel
theorem k195_95 : decode (mB 195) 95 = .ok (.aload_n 0, 1) := by decide +kernel
theorem k195_96 : decode (mB 195) 96 = .ok (.getfield 25, 3) ∧ tF (mO 195) 25 = some (11, 13, 1, 1) := by decide +kernel
theorem k195_99 : decode (mB 195) 99 = .ok (.iconst 2, 1) := by decide +kernel
theorem k195_100 : decode (mB 195) 100 = .ok (.iaload, 1) := by decide +kernel
theorem k195_101 : decode (mB 195) 101 = .ok (.if_icmp .ge 63, 3) := by decide +kernel
theorem k195_104 : decode (mB 195) 104 = .ok (.aload_n 0, 1) := by decide +kernel
theorem k195_105 : decode (mB 195) 105 = .ok (.getfield 25, 3) ∧ tF (mO 195) 25 = some (11, 13, 1, 1) := by decide +kernel
theorem k195_108 : decode (mB 195) 108 = .ok (.bipush 28, 2) := by decide +kernel
theorem k195_110 : decode (mB 195) 110 = .ok (.iconst 4, 1) := by decide +kernel
theorem k195_111 : decode (mB 195) 111 = .ok (.iload_n 2, 1) := by decide +kernel
theorem k195_112 : decode (mB 195) 112 = .ok (.imul, 1) := by decide +kernel
theorem k195_113 : decode (mB 195) 113 = .ok (.iadd, 1) := by decide +kernel
theorem k195_114 : decode (mB 195) 114 = .ok (.iconst 2, 1) := by decide +kernel
theorem k195_115 : decode (mB 195) 115 = .ok (.iadd, 1) := by decide +kernel
theorem k195_116 : decode (mB 195) 116 = .ok (.iaload, 1) := by decide +kernel
theorem k195_117 : decode (mB 195) 117 = .ok (.istore_n 3, 1) := by decide +kernel
theorem k195_118 : decode (mB 195) 118 = .ok (.aload_n 0, 1) := by decide +kernel
theorem k195_119 : decode (mB 195) 119 = .ok (.getfield 25, 3) ∧ tF (mO 195) 25 = some (11, 13, 1, 1) := by decide +kernel
theorem k195_122 : decode (mB 195) 122 = .ok (.bipush 28, 2) := by decide +kernel
theorem k195_124 : decode (mB 195) 124 = .ok (.iconst 4, 1) := by decide +kernel
theorem k195_125 : decode (mB 195) 125 = .ok (.iload_n 2, 1) := by decide +kernel
theorem k195_126 : decode (mB 195) 126 = .ok (.imul, 1) := by decide +kernel
theorem k195_127 : decode (mB 195) 127 = .ok (.iadd, 1) := by decide +kernel
theorem k195_128 : decode (mB 195) 128 = .ok (.iconst 2, 1) := by decide +kernel
theorem k195_129 : decode (mB 195) 129 = .ok (.iadd, 1) := by decide +kernel
theorem k195_130 : decode (mB 195) 130 = .ok (.iload_n 3, 1) := by decide +kernel
theorem k195_131 : decode (mB 195) 131 = .ok (.iload_n 1, 1) := by decide +kernel
theorem k195_132 : decode (mB 195) 132 = .ok (.iconst 1, 1) := by decide +kernel
theorem k195_133 : decode (mB 195) 133 = .ok (.iadd, 1) := by decide +kernel
theorem k195_134 : decode (mB 195) 134 = .ok (.if_icmp .ne 9, 3) := by decide +kernel
theorem k195_137 : decode (mB 195) 137 = .ok (.iload_n 1, 1) := by decide +kernel
theorem k195_138 : decode (mB 195) 138 = .ok (.iconst 2, 1) := by decide +kernel
theorem k195_139 : decode (mB 195) 139 = .ok (.iadd, 1) := by decide +kernel
theorem k195_140 : decode (mB 195) 140 = .ok (.goto 17, 3) := by decide +kernel
theorem k195_143 : decode (mB 195) 143 = .ok (.iload_n 3, 1) := by decide +kernel
theorem k195_144 : decode (mB 195) 144 = .ok (.iload_n 1, 1) := by decide +kernel
theorem k195_145 : decode (mB 195) 145 = .ok (.iconst 2, 1) := by decide +kernel
theorem k195_146 : decode (mB 195) 146 = .ok (.iadd, 1) := by decide +kernel
theorem k195_147 : decode (mB 195) 147 = .ok (.if_icmp .ne 9, 3) := by decide +kernel
theorem k195_150 : decode (mB 195) 150 = .ok (.iload_n 1, 1) := by decide +kernel
theorem k195_151 : decode (mB 195) 151 = .ok (.iconst 1, 1) := by decide +kernel
theorem k195_152 : decode (mB 195) 152 = .ok (.iadd, 1) := by decide +kernel
theorem k195_153 : decode (mB 195) 153 = .ok (.goto 4, 3) := by decide +kernel
theorem k195_156 : decode (mB 195) 156 = .ok (.iload_n 3, 1) := by decide +kernel
theorem k195_157 : decode (mB 195) 157 = .ok (.iastore, 1) := by decide +kernel
theorem k195_158 : decode (mB 195) 158 = .ok (.iinc 2 1, 3) := by decide +kernel
theorem k195_161 : decode (mB 195) 161 = .ok (.goto (-67), 3) := by decide +kernel
theorem k195_164 : decode (mB 195) 164 = .ok (.aload_n 0, 1) := by decide +kernel
theorem k195_165 : decode (mB 195) 165 = .ok (.getfield 25, 3) ∧ tF (mO 195) 25 = some (11, 13, 1, 1) := by decide +kernel
theorem k195_168 : decode (mB 195) 168 = .ok (.invokestatic 181, 3) ∧ tM (mO 195) 181 = none ∧ tS (mO 195) 181 = some 189 := by decide +kernel
theorem k195_171 : decode (mB 195) 171 = .ok (.ireturn, 1) ∧ mR 195 = (some .int) := by decide +kernel
-- 196: ChairPastModel.undo:()I, locals 1
theorem l196 : mL 196 = 1 := by decide +kernel
theorem k196_0 : decode (mB 196) 0 = .ok (.aload_n 0, 1) := by decide +kernel
theorem k196_1 : decode (mB 196) 1 = .ok (.getfield 145, 3) ∧ tF (mO 196) 145 = some (11, 17, 0, 0) := by decide +kernel
theorem k196_4 : decode (mB 196) 4 = .ok (.ifCond .ne 6, 3) := by decide +kernel
theorem k196_7 : decode (mB 196) 7 = .ok (.ldc 173, 2) ∧ tK (mO 196) 173 = some (-1000002) := by decide +kernel
theorem k196_9 : decode (mB 196) 9 = .ok (.ireturn, 1) ∧ mR 196 = (some .int) := by decide +kernel
theorem k196_10 : decode (mB 196) 10 = .ok (.aload_n 0, 1) := by decide +kernel
theorem k196_11 : decode (mB 196) 11 = .ok (.dup, 1) := by decide +kernel
theorem k196_12 : decode (mB 196) 12 = .ok (.getfield 145, 3) ∧ tF (mO 196) 145 = some (11, 17, 0, 0) := by decide +kernel
theorem k196_15 : decode (mB 196) 15 = .ok (.iconst 1, 1) := by decide +kernel
theorem k196_16 : decode (mB 196) 16 = .ok (.isub, 1) := by decide +kernel
theorem k196_17 : decode (mB 196) 17 = .ok (.putfield 145, 3) ∧ tF (mO 196) 145 = some (11, 17, 0, 0) := by decide +kernel
theorem k196_20 : decode (mB 196) 20 = .ok (.aload_n 0, 1) := by decide +kernel
theorem k196_21 : decode (mB 196) 21 = .ok (.getfield 34, 3) ∧ tF (mO 196) 34 = some (11, 16, 1, 1) := by decide +kernel
theorem k196_24 : decode (mB 196) 24 = .ok (.bipush 48, 2) := by decide +kernel
theorem k196_26 : decode (mB 196) 26 = .ok (.aload_n 0, 1) := by decide +kernel
theorem k196_27 : decode (mB 196) 27 = .ok (.getfield 145, 3) ∧ tF (mO 196) 145 = some (11, 17, 0, 0) := by decide +kernel
theorem k196_30 : decode (mB 196) 30 = .ok (.imul, 1) := by decide +kernel
theorem k196_31 : decode (mB 196) 31 = .ok (.aload_n 0, 1) := by decide +kernel
theorem k196_32 : decode (mB 196) 32 = .ok (.getfield 25, 3) ∧ tF (mO 196) 25 = some (11, 13, 1, 1) := by decide +kernel
theorem k196_35 : decode (mB 196) 35 = .ok (.iconst 0, 1) := by decide +kernel
theorem k196_36 : decode (mB 196) 36 = .ok (.invokestatic 141, 3) ∧ tM (mO 196) 141 = none ∧ tS (mO 196) 141 = some 159 := by decide +kernel
theorem k196_39 : decode (mB 196) 39 = .ok (.aload_n 0, 1) := by decide +kernel
theorem k196_40 : decode (mB 196) 40 = .ok (.getfield 145, 3) ∧ tF (mO 196) 145 = some (11, 17, 0, 0) := by decide +kernel
theorem k196_43 : decode (mB 196) 43 = .ok (.ireturn, 1) ∧ mR 196 = (some .int) := by decide +kernel
-- 197: ChairPastModel.chair:(II)I, locals 3
theorem l197 : mL 197 = 3 := by decide +kernel
theorem k197_0 : decode (mB 197) 0 = .ok (.aload_n 0, 1) := by decide +kernel
theorem k197_1 : decode (mB 197) 1 = .ok (.iload_n 1, 1) := by decide +kernel
theorem k197_2 : decode (mB 197) 2 = .ok (.invokevirtual 170, 3) ∧ tVn (mO 197) 170 = some 1 ∧ tV (mO 197) 170 11 = some 182 := by decide +kernel
theorem k197_5 : decode (mB 197) 5 = .ok (.ifCond .eq 12, 3) := by decide +kernel
theorem k197_8 : decode (mB 197) 8 = .ok (.iload_n 2, 1) := by decide +kernel
theorem k197_9 : decode (mB 197) 9 = .ok (.iconst 0, 1) := by decide +kernel
theorem k197_10 : decode (mB 197) 10 = .ok (.iconst 4, 1) := by decide +kernel
theorem k197_11 : decode (mB 197) 11 = .ok (.invokestatic 59, 3) ∧ tM (mO 197) 59 = none ∧ tS (mO 197) 59 = some 155 := by decide +kernel
theorem k197_14 : decode (mB 197) 14 = .ok (.ifCond .ne 6, 3) := by decide +kernel
theorem k197_17 : decode (mB 197) 17 = .ok (.ldc 67, 2) ∧ tK (mO 197) 67 = some (-1000001) := by decide +kernel
theorem k197_19 : decode (mB 197) 19 = .ok (.ireturn, 1) ∧ mR 197 = (some .int) := by decide +kernel
theorem k197_20 : decode (mB 197) 20 = .ok (.iload_n 2, 1) := by decide +kernel
theorem k197_21 : decode (mB 197) 21 = .ok (.iconst 4, 1) := by decide +kernel
theorem k197_22 : decode (mB 197) 22 = .ok (.if_icmp .ne 14, 3) := by decide +kernel
theorem k197_25 : decode (mB 197) 25 = .ok (.aload_n 0, 1) := by decide +kernel
theorem k197_26 : decode (mB 197) 26 = .ok (.getfield 25, 3) ∧ tF (mO 197) 25 = some (11, 13, 1, 1) := by decide +kernel
theorem k197_29 : decode (mB 197) 29 = .ok (.iload_n 1, 1) := by decide +kernel
theorem k197_30 : decode (mB 197) 30 = .ok (.invokestatic 159, 3) ∧ tM (mO 197) 159 = none ∧ tS (mO 197) 159 = some 187 := by decide +kernel
theorem k197_33 : decode (mB 197) 33 = .ok (.goto 17, 3) := by decide +kernel
theorem k197_36 : decode (mB 197) 36 = .ok (.aload_n 0, 1) := by decide +kernel
theorem k197_37 : decode (mB 197) 37 = .ok (.getfield 25, 3) ∧ tF (mO 197) 25 = some (11, 13, 1, 1) := by decide +kernel
theorem k197_40 : decode (mB 197) 40 = .ok (.iconst 3, 1) := by decide +kernel
theorem k197_41 : decode (mB 197) 41 = .ok (.iconst 5, 1) := by decide +kernel
theorem k197_42 : decode (mB 197) 42 = .ok (.iload_n 1, 1) := by decide +kernel
theorem k197_43 : decode (mB 197) 43 = .ok (.imul, 1) := by decide +kernel
theorem k197_44 : decode (mB 197) 44 = .ok (.iadd, 1) := by decide +kernel
theorem k197_45 : decode (mB 197) 45 = .ok (.iconst 1, 1) := by decide +kernel
theorem k197_46 : decode (mB 197) 46 = .ok (.iadd, 1) := by decide +kernel
theorem k197_47 : decode (mB 197) 47 = .ok (.iload_n 2, 1) := by decide +kernel
theorem k197_48 : decode (mB 197) 48 = .ok (.iadd, 1) := by decide +kernel
theorem k197_49 : decode (mB 197) 49 = .ok (.iaload, 1) := by decide +kernel
theorem k197_50 : decode (mB 197) 50 = .ok (.ireturn, 1) ∧ mR 197 = (some .int) := by decide +kernel
-- 198: ChairPastModel.guest:(II)I, locals 4
theorem l198 : mL 198 = 4 := by decide +kernel
theorem k198_0 : decode (mB 198) 0 = .ok (.aload_n 0, 1) := by decide +kernel
theorem k198_1 : decode (mB 198) 1 = .ok (.iload_n 1, 1) := by decide +kernel
theorem k198_2 : decode (mB 198) 2 = .ok (.invokevirtual 167, 3) ∧ tVn (mO 198) 167 = some 1 ∧ tV (mO 198) 167 11 = some 183 := by decide +kernel
theorem k198_5 : decode (mB 198) 5 = .ok (.ifCond .ne 6, 3) := by decide +kernel
theorem k198_8 : decode (mB 198) 8 = .ok (.ldc 67, 2) ∧ tK (mO 198) 67 = some (-1000001) := by decide +kernel
theorem k198_10 : decode (mB 198) 10 = .ok (.ireturn, 1) ∧ mR 198 = (some .int) := by decide +kernel
theorem k198_11 : decode (mB 198) 11 = .ok (.bipush 28, 2) := by decide +kernel
theorem k198_13 : decode (mB 198) 13 = .ok (.iconst 4, 1) := by decide +kernel
theorem k198_14 : decode (mB 198) 14 = .ok (.iload_n 1, 1) := by decide +kernel
theorem k198_15 : decode (mB 198) 15 = .ok (.imul, 1) := by decide +kernel
theorem k198_16 : decode (mB 198) 16 = .ok (.iadd, 1) := by decide +kernel
theorem k198_17 : decode (mB 198) 17 = .ok (.istore_n 3, 1) := by decide +kernel
theorem k198_18 : decode (mB 198) 18 = .ok (.iload_n 2, 1) := by decide +kernel
theorem k198_19 : decode (mB 198) 19 = .ok (.tableswitch 97 0 3 #[29, 36, 45, 72], 29) := by decide +kernel
theorem k198_48 : decode (mB 198) 48 = .ok (.aload_n 0, 1) := by decide +kernel
theorem k198_49 : decode (mB 198) 49 = .ok (.getfield 25, 3) ∧ tF (mO 198) 25 = some (11, 13, 1, 1) := by decide +kernel
theorem k198_52 : decode (mB 198) 52 = .ok (.iload_n 3, 1) := by decide +kernel
theorem k198_53 : decode (mB 198) 53 = .ok (.iaload, 1) := by decide +kernel
theorem k198_54 : decode (mB 198) 54 = .ok (.ireturn, 1) ∧ mR 198 = (some .int) := by decide +kernel
theorem k198_55 : decode (mB 198) 55 = .ok (.aload_n 0, 1) := by decide +kernel
theorem k198_56 : decode (mB 198) 56 = .ok (.getfield 25, 3) ∧ tF (mO 198) 25 = some (11, 13, 1, 1) := by decide +kernel
theorem k198_59 : decode (mB 198) 59 = .ok (.iload_n 3, 1) := by decide +kernel
theorem k198_60 : decode (mB 198) 60 = .ok (.iconst 1, 1) := by decide +kernel
theorem k198_61 : decode (mB 198) 61 = .ok (.iadd, 1) := by decide +kernel
theorem k198_62 : decode (mB 198) 62 = .ok (.iaload, 1) := by decide +kernel
theorem k198_63 : decode (mB 198) 63 = .ok (.ireturn, 1) ∧ mR 198 = (some .int) := by decide +kernel
theorem k198_64 : decode (mB 198) 64 = .ok (.aload_n 0, 1) := by decide +kernel
theorem k198_65 : decode (mB 198) 65 = .ok (.getfield 25, 3) ∧ tF (mO 198) 25 = some (11, 13, 1, 1) := by decide +kernel
theorem k198_68 : decode (mB 198) 68 = .ok (.iload_n 3, 1) := by decide +kernel
theorem k198_69 : decode (mB 198) 69 = .ok (.iconst 2, 1) := by decide +kernel
theorem k198_70 : decode (mB 198) 70 = .ok (.iadd, 1) := by decide +kernel
theorem k198_71 : decode (mB 198) 71 = .ok (.iaload, 1) := by decide +kernel
theorem k198_72 : decode (mB 198) 72 = .ok (.ifCond .ne 8, 3) := by decide +kernel
theorem k198_75 : decode (mB 198) 75 = .ok (.ldc 53, 2) ∧ tK (mO 198) 53 = some (-1000000) := by decide +kernel
theorem k198_77 : decode (mB 198) 77 = .ok (.goto 13, 3) := by decide +kernel
theorem k198_80 : decode (mB 198) 80 = .ok (.aload_n 0, 1) := by decide +kernel
theorem k198_81 : decode (mB 198) 81 = .ok (.getfield 25, 3) ∧ tF (mO 198) 25 = some (11, 13, 1, 1) := by decide +kernel
theorem k198_84 : decode (mB 198) 84 = .ok (.iload_n 3, 1) := by decide +kernel
theorem k198_85 : decode (mB 198) 85 = .ok (.iconst 2, 1) := by decide +kernel
theorem k198_86 : decode (mB 198) 86 = .ok (.iadd, 1) := by decide +kernel
theorem k198_87 : decode (mB 198) 87 = .ok (.iaload, 1) := by decide +kernel
theorem k198_88 : decode (mB 198) 88 = .ok (.iconst 1, 1) := by decide +kernel
theorem k198_89 : decode (mB 198) 89 = .ok (.isub, 1) := by decide +kernel
theorem k198_90 : decode (mB 198) 90 = .ok (.ireturn, 1) ∧ mR 198 = (some .int) := by decide +kernel
theorem k198_91 : decode (mB 198) 91 = .ok (.aload_n 0, 1) := by decide +kernel
theorem k198_92 : decode (mB 198) 92 = .ok (.getfield 25, 3) ∧ tF (mO 198) 25 = some (11, 13, 1, 1) := by decide +kernel
theorem k198_95 : decode (mB 198) 95 = .ok (.iload_n 3, 1) := by decide +kernel
theorem k198_96 : decode (mB 198) 96 = .ok (.iconst 2, 1) := by decide +kernel
theorem k198_97 : decode (mB 198) 97 = .ok (.iadd, 1) := by decide +kernel
theorem k198_98 : decode (mB 198) 98 = .ok (.iaload, 1) := by decide +kernel
theorem k198_99 : decode (mB 198) 99 = .ok (.ifCond .ne 8, 3) := by decide +kernel
theorem k198_102 : decode (mB 198) 102 = .ok (.ldc 53, 2) ∧ tK (mO 198) 53 = some (-1000000) := by decide +kernel
theorem k198_104 : decode (mB 198) 104 = .ok (.goto 11, 3) := by decide +kernel
theorem k198_107 : decode (mB 198) 107 = .ok (.aload_n 0, 1) := by decide +kernel
theorem k198_108 : decode (mB 198) 108 = .ok (.getfield 25, 3) ∧ tF (mO 198) 25 = some (11, 13, 1, 1) := by decide +kernel
theorem k198_111 : decode (mB 198) 111 = .ok (.iload_n 3, 1) := by decide +kernel
theorem k198_112 : decode (mB 198) 112 = .ok (.iconst 3, 1) := by decide +kernel
theorem k198_113 : decode (mB 198) 113 = .ok (.iadd, 1) := by decide +kernel
theorem k198_114 : decode (mB 198) 114 = .ok (.iaload, 1) := by decide +kernel
theorem k198_115 : decode (mB 198) 115 = .ok (.ireturn, 1) ∧ mR 198 = (some .int) := by decide +kernel
theorem k198_116 : decode (mB 198) 116 = .ok (.ldc 67, 2) ∧ tK (mO 198) 67 = some (-1000001) := by decide +kernel
theorem k198_118 : decode (mB 198) 118 = .ok (.ireturn, 1) ∧ mR 198 = (some .int) := by decide +kernel
-- 199: ChairPastModel.peace:()I, locals 1
theorem l199 : mL 199 = 1 := by decide +kernel
theorem k199_0 : decode (mB 199) 0 = .ok (.aload_n 0, 1) := by decide +kernel
theorem k199_1 : decode (mB 199) 1 = .ok (.invokevirtual 185, 3) ∧ tVn (mO 199) 185 = some 0 ∧ tV (mO 199) 185 11 = some 181 := by decide +kernel
theorem k199_4 : decode (mB 199) 4 = .ok (.ifCond .eq 13, 3) := by decide +kernel
theorem k199_7 : decode (mB 199) 7 = .ok (.aload_n 0, 1) := by decide +kernel
theorem k199_8 : decode (mB 199) 8 = .ok (.getfield 25, 3) ∧ tF (mO 199) 25 = some (11, 13, 1, 1) := by decide +kernel
theorem k199_11 : decode (mB 199) 11 = .ok (.invokestatic 181, 3) ∧ tM (mO 199) 181 = none ∧ tS (mO 199) 181 = some 189 := by decide +kernel
theorem k199_14 : decode (mB 199) 14 = .ok (.goto 5, 3) := by decide +kernel
theorem k199_17 : decode (mB 199) 17 = .ok (.ldc 173, 2) ∧ tK (mO 199) 173 = some (-1000002) := by decide +kernel
theorem k199_19 : decode (mB 199) 19 = .ok (.ireturn, 1) ∧ mR 199 = (some .int) := by decide +kernel
-- 200: ChairPastModel.would:(III)I, locals 5
theorem l200 : mL 200 = 5 := by decide +kernel
theorem k200_0 : decode (mB 200) 0 = .ok (.aload_n 0, 1) := by decide +kernel
theorem k200_1 : decode (mB 200) 1 = .ok (.iload_n 1, 1) := by decide +kernel
theorem k200_2 : decode (mB 200) 2 = .ok (.invokevirtual 167, 3) ∧ tVn (mO 200) 167 = some 1 ∧ tV (mO 200) 167 11 = some 183 := by decide +kernel
theorem k200_5 : decode (mB 200) 5 = .ok (.ifCond .eq 20, 3) := by decide +kernel
theorem k200_8 : decode (mB 200) 8 = .ok (.aload_n 0, 1) := by decide +kernel
theorem k200_9 : decode (mB 200) 9 = .ok (.iload_n 2, 1) := by decide +kernel
theorem k200_10 : decode (mB 200) 10 = .ok (.invokevirtual 170, 3) ∧ tVn (mO 200) 170 = some 1 ∧ tV (mO 200) 170 11 = some 182 := by decide +kernel
theorem k200_13 : decode (mB 200) 13 = .ok (.ifCond .eq 12, 3) := by decide +kernel
theorem k200_16 : decode (mB 200) 16 = .ok (.iload_n 3, 1) := by decide +kernel
theorem k200_17 : decode (mB 200) 17 = .ok (.iconst 0, 1) := by decide +kernel
theorem k200_18 : decode (mB 200) 18 = .ok (.iconst 2, 1) := by decide +kernel
theorem k200_19 : decode (mB 200) 19 = .ok (.invokestatic 59, 3) ∧ tM (mO 200) 59 = none ∧ tS (mO 200) 59 = some 155 := by decide +kernel
theorem k200_22 : decode (mB 200) 22 = .ok (.ifCond .ne 6, 3) := by decide +kernel
theorem k200_25 : decode (mB 200) 25 = .ok (.ldc 67, 2) ∧ tK (mO 200) 67 = some (-1000001) := by decide +kernel
theorem k200_27 : decode (mB 200) 27 = .ok (.ireturn, 1) ∧ mR 200 = (some .int) := by decide +kernel
theorem k200_28 : decode (mB 200) 28 = .ok (.aload_n 0, 1) := by decide +kernel
theorem k200_29 : decode (mB 200) 29 = .ok (.getfield 25, 3) ∧ tF (mO 200) 25 = some (11, 13, 1, 1) := by decide +kernel
theorem k200_32 : decode (mB 200) 32 = .ok (.iconst 0, 1) := by decide +kernel
theorem k200_33 : decode (mB 200) 33 = .ok (.aload_n 0, 1) := by decide +kernel
theorem k200_34 : decode (mB 200) 34 = .ok (.getfield 31, 3) ∧ tF (mO 200) 31 = some (11, 15, 1, 1) := by decide +kernel
theorem k200_37 : decode (mB 200) 37 = .ok (.iconst 0, 1) := by decide +kernel
theorem k200_38 : decode (mB 200) 38 = .ok (.invokestatic 141, 3) ∧ tM (mO 200) 141 = none ∧ tS (mO 200) 141 = some 159 := by decide +kernel
theorem k200_41 : decode (mB 200) 41 = .ok (.aload_n 0, 1) := by decide +kernel
theorem k200_42 : decode (mB 200) 42 = .ok (.getfield 31, 3) ∧ tF (mO 200) 31 = some (11, 15, 1, 1) := by decide +kernel
theorem k200_45 : decode (mB 200) 45 = .ok (.iload_n 1, 1) := by decide +kernel
theorem k200_46 : decode (mB 200) 46 = .ok (.iload_n 2, 1) := by decide +kernel
theorem k200_47 : decode (mB 200) 47 = .ok (.invokestatic 156, 3) ∧ tM (mO 200) 156 = none ∧ tS (mO 200) 156 = some 186 := by decide +kernel
theorem k200_50 : decode (mB 200) 50 = .ok (.istore 4, 2) := by decide +kernel
theorem k200_52 : decode (mB 200) 52 = .ok (.iload_n 3, 1) := by decide +kernel
theorem k200_53 : decode (mB 200) 53 = .ok (.ifCond .ne 8, 3) := by decide +kernel
theorem k200_56 : decode (mB 200) 56 = .ok (.iload 4, 2) := by decide +kernel
theorem k200_58 : decode (mB 200) 58 = .ok (.goto 15, 3) := by decide +kernel
theorem k200_61 : decode (mB 200) 61 = .ok (.aload_n 0, 1) := by decide +kernel
theorem k200_62 : decode (mB 200) 62 = .ok (.getfield 31, 3) ∧ tF (mO 200) 31 = some (11, 15, 1, 1) := by decide +kernel
theorem k200_65 : decode (mB 200) 65 = .ok (.iconst 3, 1) := by decide +kernel
theorem k200_66 : decode (mB 200) 66 = .ok (.iconst 5, 1) := by decide +kernel
theorem k200_67 : decode (mB 200) 67 = .ok (.iload_n 2, 1) := by decide +kernel
theorem k200_68 : decode (mB 200) 68 = .ok (.imul, 1) := by decide +kernel
theorem k200_69 : decode (mB 200) 69 = .ok (.iadd, 1) := by decide +kernel
theorem k200_70 : decode (mB 200) 70 = .ok (.iload_n 3, 1) := by decide +kernel
theorem k200_71 : decode (mB 200) 71 = .ok (.iadd, 1) := by decide +kernel
theorem k200_72 : decode (mB 200) 72 = .ok (.iaload, 1) := by decide +kernel
theorem k200_73 : decode (mB 200) 73 = .ok (.ireturn, 1) ∧ mR 200 = (some .int) := by decide +kernel
-- 201: ChairPastModel.counts:(II)Z, locals 4
theorem l201 : mL 201 = 4 := by decide +kernel
theorem k201_0 : decode (mB 201) 0 = .ok (.iload_n 1, 1) := by decide +kernel
theorem k201_1 : decode (mB 201) 1 = .ok (.iconst 1, 1) := by decide +kernel
theorem k201_2 : decode (mB 201) 2 = .ok (.isub, 1) := by decide +kernel
theorem k201_3 : decode (mB 201) 3 = .ok (.istore_n 3, 1) := by decide +kernel
theorem k201_4 : decode (mB 201) 4 = .ok (.iload_n 3, 1) := by decide +kernel
theorem k201_5 : decode (mB 201) 5 = .ok (.ifCond .lt 38, 3) := by decide +kernel
theorem k201_8 : decode (mB 201) 8 = .ok (.aload_n 0, 1) := by decide +kernel
theorem k201_9 : decode (mB 201) 9 = .ok (.getfield 44, 3) ∧ tF (mO 201) 44 = some (11, 20, 1, 1) := by decide +kernel
theorem k201_12 : decode (mB 201) 12 = .ok (.iload_n 3, 1) := by decide +kernel
theorem k201_13 : decode (mB 201) 13 = .ok (.dup2, 1) := by decide +kernel
theorem k201_14 : decode (mB 201) 14 = .ok (.iaload, 1) := by decide +kernel
theorem k201_15 : decode (mB 201) 15 = .ok (.iconst 1, 1) := by decide +kernel
theorem k201_16 : decode (mB 201) 16 = .ok (.iadd, 1) := by decide +kernel
theorem k201_17 : decode (mB 201) 17 = .ok (.iastore, 1) := by decide +kernel
theorem k201_18 : decode (mB 201) 18 = .ok (.aload_n 0, 1) := by decide +kernel
theorem k201_19 : decode (mB 201) 19 = .ok (.getfield 44, 3) ∧ tF (mO 201) 44 = some (11, 20, 1, 1) := by decide +kernel
theorem k201_22 : decode (mB 201) 22 = .ok (.iload_n 3, 1) := by decide +kernel
theorem k201_23 : decode (mB 201) 23 = .ok (.iaload, 1) := by decide +kernel
theorem k201_24 : decode (mB 201) 24 = .ok (.iload_n 2, 1) := by decide +kernel
theorem k201_25 : decode (mB 201) 25 = .ok (.if_icmp .ge 5, 3) := by decide +kernel
theorem k201_28 : decode (mB 201) 28 = .ok (.iconst 1, 1) := by decide +kernel
theorem k201_29 : decode (mB 201) 29 = .ok (.ireturn, 1) ∧ mR 201 = (some .boolean) := by decide +kernel
theorem k201_30 : decode (mB 201) 30 = .ok (.aload_n 0, 1) := by decide +kernel
theorem k201_31 : decode (mB 201) 31 = .ok (.getfield 44, 3) ∧ tF (mO 201) 44 = some (11, 20, 1, 1) := by decide +kernel
theorem k201_34 : decode (mB 201) 34 = .ok (.iload_n 3, 1) := by decide +kernel
theorem k201_35 : decode (mB 201) 35 = .ok (.iconst 0, 1) := by decide +kernel
theorem k201_36 : decode (mB 201) 36 = .ok (.iastore, 1) := by decide +kernel
theorem k201_37 : decode (mB 201) 37 = .ok (.iinc 3 (-1), 3) := by decide +kernel
theorem k201_40 : decode (mB 201) 40 = .ok (.goto (-36), 3) := by decide +kernel
theorem k201_43 : decode (mB 201) 43 = .ok (.iconst 0, 1) := by decide +kernel
theorem k201_44 : decode (mB 201) 44 = .ok (.ireturn, 1) ∧ mR 201 = (some .boolean) := by decide +kernel
-- 202: ChairPastModel.seats:()Z, locals 4
theorem l202 : mL 202 = 4 := by decide +kernel
theorem k202_0 : decode (mB 202) 0 = .ok (.aload_n 0, 1) := by decide +kernel
theorem k202_1 : decode (mB 202) 1 = .ok (.getfield 25, 3) ∧ tF (mO 202) 25 = some (11, 13, 1, 1) := by decide +kernel
theorem k202_4 : decode (mB 202) 4 = .ok (.iconst 0, 1) := by decide +kernel
theorem k202_5 : decode (mB 202) 5 = .ok (.aload_n 0, 1) := by decide +kernel
theorem k202_6 : decode (mB 202) 6 = .ok (.getfield 31, 3) ∧ tF (mO 202) 31 = some (11, 15, 1, 1) := by decide +kernel
theorem k202_9 : decode (mB 202) 9 = .ok (.iconst 0, 1) := by decide +kernel
theorem k202_10 : decode (mB 202) 10 = .ok (.invokestatic 141, 3) ∧ tM (mO 202) 141 = none ∧ tS (mO 202) 141 = some 159 := by decide +kernel
theorem k202_13 : decode (mB 202) 13 = .ok (.iconst 1, 1) := by decide +kernel
theorem k202_14 : decode (mB 202) 14 = .ok (.istore_n 1, 1) := by decide +kernel
theorem k202_15 : decode (mB 202) 15 = .ok (.iconst 0, 1) := by decide +kernel
theorem k202_16 : decode (mB 202) 16 = .ok (.istore_n 2, 1) := by decide +kernel
theorem k202_17 : decode (mB 202) 17 = .ok (.iload_n 2, 1) := by decide +kernel
theorem k202_18 : decode (mB 202) 18 = .ok (.aload_n 0, 1) := by decide +kernel
theorem k202_19 : decode (mB 202) 19 = .ok (.getfield 25, 3) ∧ tF (mO 202) 25 = some (11, 13, 1, 1) := by decide +kernel
theorem k202_22 : decode (mB 202) 22 = .ok (.iconst 2, 1) := by decide +kernel
theorem k202_23 : decode (mB 202) 23 = .ok (.iaload, 1) := by decide +kernel
theorem k202_24 : decode (mB 202) 24 = .ok (.if_icmp .ge 102, 3) := by decide +kernel
theorem k202_27 : decode (mB 202) 27 = .ok (.iload_n 1, 1) := by decide +kernel
theorem k202_28 : decode (mB 202) 28 = .ok (.ifCond .eq 98, 3) := by decide +kernel
theorem k202_31 : decode (mB 202) 31 = .ok (.aload_n 0, 1) := by decide +kernel
theorem k202_32 : decode (mB 202) 32 = .ok (.getfield 25, 3) ∧ tF (mO 202) 25 = some (11, 13, 1, 1) := by decide +kernel
theorem k202_35 : decode (mB 202) 35 = .ok (.bipush 28, 2) := by decide +kernel
theorem k202_37 : decode (mB 202) 37 = .ok (.iconst 4, 1) := by decide +kernel
theorem k202_38 : decode (mB 202) 38 = .ok (.iload_n 2, 1) := by decide +kernel
theorem k202_39 : decode (mB 202) 39 = .ok (.imul, 1) := by decide +kernel
theorem k202_40 : decode (mB 202) 40 = .ok (.iadd, 1) := by decide +kernel
theorem k202_41 : decode (mB 202) 41 = .ok (.iconst 2, 1) := by decide +kernel
theorem k202_42 : decode (mB 202) 42 = .ok (.iadd, 1) := by decide +kernel
theorem k202_43 : decode (mB 202) 43 = .ok (.iaload, 1) := by decide +kernel
theorem k202_44 : decode (mB 202) 44 = .ok (.ifCond .le 7, 3) := by decide +kernel
theorem k202_47 : decode (mB 202) 47 = .ok (.iconst 1, 1) := by decide +kernel
theorem k202_48 : decode (mB 202) 48 = .ok (.goto 4, 3) := by decide +kernel
theorem k202_51 : decode (mB 202) 51 = .ok (.iconst 0, 1) := by decide +kernel
theorem k202_52 : decode (mB 202) 52 = .ok (.istore_n 3, 1) := by decide +kernel
theorem k202_53 : decode (mB 202) 53 = .ok (.iload_n 3, 1) := by decide +kernel
theorem k202_54 : decode (mB 202) 54 = .ok (.ifCond .eq 20, 3) := by decide +kernel
theorem k202_57 : decode (mB 202) 57 = .ok (.aload_n 0, 1) := by decide +kernel
theorem k202_58 : decode (mB 202) 58 = .ok (.getfield 44, 3) ∧ tF (mO 202) 44 = some (11, 20, 1, 1) := by decide +kernel
theorem k202_61 : decode (mB 202) 61 = .ok (.iload_n 2, 1) := by decide +kernel
theorem k202_62 : decode (mB 202) 62 = .ok (.iaload, 1) := by decide +kernel
theorem k202_63 : decode (mB 202) 63 = .ok (.ifCond .ne 7, 3) := by decide +kernel
theorem k202_66 : decode (mB 202) 66 = .ok (.iconst 1, 1) := by decide +kernel
theorem k202_67 : decode (mB 202) 67 = .ok (.goto 30, 3) := by decide +kernel
theorem k202_70 : decode (mB 202) 70 = .ok (.iconst 0, 1) := by decide +kernel
theorem k202_71 : decode (mB 202) 71 = .ok (.goto 26, 3) := by decide +kernel
theorem k202_74 : decode (mB 202) 74 = .ok (.aload_n 0, 1) := by decide +kernel
theorem k202_75 : decode (mB 202) 75 = .ok (.getfield 31, 3) ∧ tF (mO 202) 31 = some (11, 15, 1, 1) := by decide +kernel
theorem k202_78 : decode (mB 202) 78 = .ok (.aload_n 0, 1) := by decide +kernel
theorem k202_79 : decode (mB 202) 79 = .ok (.getfield 44, 3) ∧ tF (mO 202) 44 = some (11, 20, 1, 1) := by decide +kernel
theorem k202_82 : decode (mB 202) 82 = .ok (.iload_n 2, 1) := by decide +kernel
theorem k202_83 : decode (mB 202) 83 = .ok (.iaload, 1) := by decide +kernel
theorem k202_84 : decode (mB 202) 84 = .ok (.invokestatic 159, 3) ∧ tM (mO 202) 159 = none ∧ tS (mO 202) 159 = some 187 := by decide +kernel
theorem k202_87 : decode (mB 202) 87 = .ok (.ldc 53, 2) ∧ tK (mO 202) 53 = some (-1000000) := by decide +kernel
theorem k202_89 : decode (mB 202) 89 = .ok (.if_icmp .ne 7, 3) := by decide +kernel
theorem k202_92 : decode (mB 202) 92 = .ok (.iconst 1, 1) := by decide +kernel
theorem k202_93 : decode (mB 202) 93 = .ok (.goto 4, 3) := by decide +kernel
theorem k202_96 : decode (mB 202) 96 = .ok (.iconst 0, 1) := by decide +kernel
theorem k202_97 : decode (mB 202) 97 = .ok (.istore_n 1, 1) := by decide +kernel
theorem k202_98 : decode (mB 202) 98 = .ok (.iload_n 1, 1) := by decide +kernel
theorem k202_99 : decode (mB 202) 99 = .ok (.ifCond .eq 21, 3) := by decide +kernel
theorem k202_102 : decode (mB 202) 102 = .ok (.iload_n 3, 1) := by decide +kernel
theorem k202_103 : decode (mB 202) 103 = .ok (.ifCond .ne 17, 3) := by decide +kernel
theorem k202_106 : decode (mB 202) 106 = .ok (.aload_n 0, 1) := by decide +kernel
theorem k202_107 : decode (mB 202) 107 = .ok (.getfield 31, 3) ∧ tF (mO 202) 31 = some (11, 15, 1, 1) := by decide +kernel
theorem k202_110 : decode (mB 202) 110 = .ok (.iload_n 2, 1) := by decide +kernel
theorem k202_111 : decode (mB 202) 111 = .ok (.aload_n 0, 1) := by decide +kernel
theorem k202_112 : decode (mB 202) 112 = .ok (.getfield 44, 3) ∧ tF (mO 202) 44 = some (11, 20, 1, 1) := by decide +kernel
theorem k202_115 : decode (mB 202) 115 = .ok (.iload_n 2, 1) := by decide +kernel
theorem k202_116 : decode (mB 202) 116 = .ok (.iaload, 1) := by decide +kernel
theorem k202_117 : decode (mB 202) 117 = .ok (.invokestatic 177, 3) ∧ tM (mO 202) 177 = none ∧ tS (mO 202) 177 = some 188 := by decide +kernel
theorem k202_120 : decode (mB 202) 120 = .ok (.iinc 2 1, 3) := by decide +kernel
theorem k202_123 : decode (mB 202) 123 = .ok (.goto (-106), 3) := by decide +kernel
theorem k202_126 : decode (mB 202) 126 = .ok (.iload_n 1, 1) := by decide +kernel
theorem k202_127 : decode (mB 202) 127 = .ok (.ireturn, 1) ∧ mR 202 = (some .boolean) := by decide +kernel
-- 203: ChairPastModel.seating:(I)I, locals 5
theorem l203 : mL 203 = 5 := by decide +kernel
theorem k203_0 : decode (mB 203) 0 = .ok (.aload_n 0, 1) := by decide +kernel
theorem k203_1 : decode (mB 203) 1 = .ok (.invokevirtual 185, 3) ∧ tVn (mO 203) 185 = some 0 ∧ tV (mO 203) 185 11 = some 181 := by decide +kernel
theorem k203_4 : decode (mB 203) 4 = .ok (.ifCond .ne 6, 3) := by decide +kernel
theorem k203_7 : decode (mB 203) 7 = .ok (.ldc 173, 2) ∧ tK (mO 203) 173 = some (-1000002) := by decide +kernel
theorem k203_9 : decode (mB 203) 9 = .ok (.ireturn, 1) ∧ mR 203 = (some .int) := by decide +kernel
theorem k203_10 : decode (mB 203) 10 = .ok (.iload_n 1, 1) := by decide +kernel
theorem k203_11 : decode (mB 203) 11 = .ok (.iconst (-1), 1) := by decide +kernel
theorem k203_12 : decode (mB 203) 12 = .ok (.iconst 4, 1) := by decide +kernel
theorem k203_13 : decode (mB 203) 13 = .ok (.invokestatic 59, 3) ∧ tM (mO 203) 59 = none ∧ tS (mO 203) 59 = some 155 := by decide +kernel
theorem k203_16 : decode (mB 203) 16 = .ok (.ifCond .ne 6, 3) := by decide +kernel
theorem k203_19 : decode (mB 203) 19 = .ok (.ldc 67, 2) ∧ tK (mO 203) 67 = some (-1000001) := by decide +kernel
theorem k203_21 : decode (mB 203) 21 = .ok (.ireturn, 1) ∧ mR 203 = (some .int) := by decide +kernel
theorem k203_22 : decode (mB 203) 22 = .ok (.iconst 0, 1) := by decide +kernel
theorem k203_23 : decode (mB 203) 23 = .ok (.istore_n 2, 1) := by decide +kernel
theorem k203_24 : decode (mB 203) 24 = .ok (.iload_n 2, 1) := by decide +kernel
theorem k203_25 : decode (mB 203) 25 = .ok (.iconst 5, 1) := by decide +kernel
theorem k203_26 : decode (mB 203) 26 = .ok (.if_icmp .ge 16, 3) := by decide +kernel
theorem k203_29 : decode (mB 203) 29 = .ok (.aload_n 0, 1) := by decide +kernel
theorem k203_30 : decode (mB 203) 30 = .ok (.getfield 44, 3) ∧ tF (mO 203) 44 = some (11, 20, 1, 1) := by decide +kernel
theorem k203_33 : decode (mB 203) 33 = .ok (.iload_n 2, 1) := by decide +kernel
theorem k203_34 : decode (mB 203) 34 = .ok (.iconst 0, 1) := by decide +kernel
theorem k203_35 : decode (mB 203) 35 = .ok (.iastore, 1) := by decide +kernel
theorem k203_36 : decode (mB 203) 36 = .ok (.iinc 2 1, 3) := by decide +kernel
theorem k203_39 : decode (mB 203) 39 = .ok (.goto (-15), 3) := by decide +kernel
theorem k203_42 : decode (mB 203) 42 = .ok (.ldc 53, 2) ∧ tK (mO 203) 53 = some (-1000000) := by decide +kernel
theorem k203_44 : decode (mB 203) 44 = .ok (.istore_n 2, 1) := by decide +kernel
theorem k203_45 : decode (mB 203) 45 = .ok (.iconst 1, 1) := by decide +kernel
theorem k203_46 : decode (mB 203) 46 = .ok (.istore_n 3, 1) := by decide +kernel
theorem k203_47 : decode (mB 203) 47 = .ok (.iload_n 3, 1) := by decide +kernel
theorem k203_48 : decode (mB 203) 48 = .ok (.ifCond .eq 92, 3) := by decide +kernel
theorem k203_51 : decode (mB 203) 51 = .ok (.aload_n 0, 1) := by decide +kernel
theorem k203_52 : decode (mB 203) 52 = .ok (.invokevirtual 188, 3) ∧ tVn (mO 203) 188 = some 0 ∧ tV (mO 203) 188 11 = some 202 := by decide +kernel
theorem k203_55 : decode (mB 203) 55 = .ok (.ifCond .eq 65, 3) := by decide +kernel
theorem k203_58 : decode (mB 203) 58 = .ok (.aload_n 0, 1) := by decide +kernel
theorem k203_59 : decode (mB 203) 59 = .ok (.getfield 31, 3) ∧ tF (mO 203) 31 = some (11, 15, 1, 1) := by decide +kernel
theorem k203_62 : decode (mB 203) 62 = .ok (.invokestatic 181, 3) ∧ tM (mO 203) 181 = none ∧ tS (mO 203) 181 = some 189 := by decide +kernel
theorem k203_65 : decode (mB 203) 65 = .ok (.iload_n 2, 1) := by decide +kernel
theorem k203_66 : decode (mB 203) 66 = .ok (.if_icmp .le 54, 3) := by decide +kernel
theorem k203_69 : decode (mB 203) 69 = .ok (.aload_n 0, 1) := by decide +kernel
theorem k203_70 : decode (mB 203) 70 = .ok (.getfield 31, 3) ∧ tF (mO 203) 31 = some (11, 15, 1, 1) := by decide +kernel
theorem k203_73 : decode (mB 203) 73 = .ok (.invokestatic 181, 3) ∧ tM (mO 203) 181 = none ∧ tS (mO 203) 181 = some 189 := by decide +kernel
theorem k203_76 : decode (mB 203) 76 = .ok (.istore_n 2, 1) := by decide +kernel
theorem k203_77 : decode (mB 203) 77 = .ok (.iconst 0, 1) := by decide +kernel
theorem k203_78 : decode (mB 203) 78 = .ok (.istore 4, 2) := by decide +kernel
theorem k203_80 : decode (mB 203) 80 = .ok (.iload 4, 2) := by decide +kernel
theorem k203_82 : decode (mB 203) 82 = .ok (.aload_n 0, 1) := by decide +kernel
theorem k203_83 : decode (mB 203) 83 = .ok (.getfield 25, 3) ∧ tF (mO 203) 25 = some (11, 13, 1, 1) := by decide +kernel
theorem k203_86 : decode (mB 203) 86 = .ok (.iconst 2, 1) := by decide +kernel
theorem k203_87 : decode (mB 203) 87 = .ok (.iaload, 1) := by decide +kernel
theorem k203_88 : decode (mB 203) 88 = .ok (.if_icmp .ge 32, 3) := by decide +kernel
theorem k203_91 : decode (mB 203) 91 = .ok (.aload_n 0, 1) := by decide +kernel
theorem k203_92 : decode (mB 203) 92 = .ok (.getfield 47, 3) ∧ tF (mO 203) 47 = some (11, 21, 1, 1) := by decide +kernel
theorem k203_95 : decode (mB 203) 95 = .ok (.iload 4, 2) := by decide +kernel
theorem k203_97 : decode (mB 203) 97 = .ok (.aload_n 0, 1) := by decide +kernel
theorem k203_98 : decode (mB 203) 98 = .ok (.getfield 31, 3) ∧ tF (mO 203) 31 = some (11, 15, 1, 1) := by decide +kernel
theorem k203_101 : decode (mB 203) 101 = .ok (.bipush 28, 2) := by decide +kernel
theorem k203_103 : decode (mB 203) 103 = .ok (.iconst 4, 1) := by decide +kernel
theorem k203_104 : decode (mB 203) 104 = .ok (.iload 4, 2) := by decide +kernel
theorem k203_106 : decode (mB 203) 106 = .ok (.imul, 1) := by decide +kernel
theorem k203_107 : decode (mB 203) 107 = .ok (.iadd, 1) := by decide +kernel
theorem k203_108 : decode (mB 203) 108 = .ok (.iconst 2, 1) := by decide +kernel
theorem k203_109 : decode (mB 203) 109 = .ok (.iadd, 1) := by decide +kernel
theorem k203_110 : decode (mB 203) 110 = .ok (.iaload, 1) := by decide +kernel
theorem k203_111 : decode (mB 203) 111 = .ok (.iconst 1, 1) := by decide +kernel
theorem k203_112 : decode (mB 203) 112 = .ok (.isub, 1) := by decide +kernel
theorem k203_113 : decode (mB 203) 113 = .ok (.iastore, 1) := by decide +kernel
theorem k203_114 : decode (mB 203) 114 = .ok (.iinc 4 1, 3) := by decide +kernel
theorem k203_117 : decode (mB 203) 117 = .ok (.goto (-37), 3) := by decide +kernel
theorem k203_120 : decode (mB 203) 120 = .ok (.aload_n 0, 1) := by decide +kernel
theorem k203_121 : decode (mB 203) 121 = .ok (.aload_n 0, 1) := by decide +kernel
theorem k203_122 : decode (mB 203) 122 = .ok (.getfield 25, 3) ∧ tF (mO 203) 25 = some (11, 13, 1, 1) := by decide +kernel
theorem k203_125 : decode (mB 203) 125 = .ok (.iconst 2, 1) := by decide +kernel
theorem k203_126 : decode (mB 203) 126 = .ok (.iaload, 1) := by decide +kernel
theorem k203_127 : decode (mB 203) 127 = .ok (.aload_n 0, 1) := by decide +kernel
theorem k203_128 : decode (mB 203) 128 = .ok (.getfield 25, 3) ∧ tF (mO 203) 25 = some (11, 13, 1, 1) := by decide +kernel
theorem k203_131 : decode (mB 203) 131 = .ok (.iconst 1, 1) := by decide +kernel
theorem k203_132 : decode (mB 203) 132 = .ok (.iaload, 1) := by decide +kernel
theorem k203_133 : decode (mB 203) 133 = .ok (.invokevirtual 191, 3) ∧ tVn (mO 203) 191 = some 2 ∧ tV (mO 203) 191 11 = some 201 := by decide +kernel
theorem k203_136 : decode (mB 203) 136 = .ok (.istore_n 3, 1) := by decide +kernel
theorem k203_137 : decode (mB 203) 137 = .ok (.goto (-90), 3) := by decide +kernel
theorem k203_140 : decode (mB 203) 140 = .ok (.iload_n 1, 1) := by decide +kernel
theorem k203_141 : decode (mB 203) 141 = .ok (.iconst (-1), 1) := by decide +kernel
theorem k203_142 : decode (mB 203) 142 = .ok (.if_icmp .eq 9, 3) := by decide +kernel
theorem k203_145 : decode (mB 203) 145 = .ok (.iload_n 2, 1) := by decide +kernel
theorem k203_146 : decode (mB 203) 146 = .ok (.ldc 53, 2) ∧ tK (mO 203) 53 = some (-1000000) := by decide +kernel
theorem k203_148 : decode (mB 203) 148 = .ok (.if_icmp .ne 7, 3) := by decide +kernel
theorem k203_151 : decode (mB 203) 151 = .ok (.iload_n 2, 1) := by decide +kernel
theorem k203_152 : decode (mB 203) 152 = .ok (.goto 22, 3) := by decide +kernel
theorem k203_155 : decode (mB 203) 155 = .ok (.aload_n 0, 1) := by decide +kernel
theorem k203_156 : decode (mB 203) 156 = .ok (.iload_n 1, 1) := by decide +kernel
theorem k203_157 : decode (mB 203) 157 = .ok (.invokevirtual 167, 3) ∧ tVn (mO 203) 167 = some 1 ∧ tV (mO 203) 167 11 = some 183 := by decide +kernel
theorem k203_160 : decode (mB 203) 160 = .ok (.ifCond .eq 12, 3) := by decide +kernel
theorem k203_163 : decode (mB 203) 163 = .ok (.aload_n 0, 1) := by decide +kernel
theorem k203_164 : decode (mB 203) 164 = .ok (.getfield 47, 3) ∧ tF (mO 203) 47 = some (11, 21, 1, 1) := by decide +kernel
theorem k203_167 : decode (mB 203) 167 = .ok (.iload_n 1, 1) := by decide +kernel
theorem k203_168 : decode (mB 203) 168 = .ok (.iaload, 1) := by decide +kernel
theorem k203_169 : decode (mB 203) 169 = .ok (.goto 5, 3) := by decide +kernel
theorem k203_172 : decode (mB 203) 172 = .ok (.ldc 53, 2) ∧ tK (mO 203) 53 = some (-1000000) := by decide +kernel
theorem k203_174 : decode (mB 203) 174 = .ok (.ireturn, 1) ∧ mR 203 = (some .int) := by decide +kernel
-- 204: ChairPastModel.warm:(IIII)I, locals 8
theorem l204 : mL 204 = 8 := by decide +kernel
theorem k204_0 : decode (mB 204) 0 = .ok (.aload_n 0, 1) := by decide +kernel
theorem k204_1 : decode (mB 204) 1 = .ok (.iload_n 1, 1) := by decide +kernel
theorem k204_2 : decode (mB 204) 2 = .ok (.invokevirtual 167, 3) ∧ tVn (mO 204) 167 = some 1 ∧ tV (mO 204) 167 11 = some 183 := by decide +kernel
theorem k204_5 : decode (mB 204) 5 = .ok (.ifCond .eq 31, 3) := by decide +kernel
theorem k204_8 : decode (mB 204) 8 = .ok (.aload_n 0, 1) := by decide +kernel
theorem k204_9 : decode (mB 204) 9 = .ok (.iload_n 2, 1) := by decide +kernel
theorem k204_10 : decode (mB 204) 10 = .ok (.invokevirtual 170, 3) ∧ tVn (mO 204) 170 = some 1 ∧ tV (mO 204) 170 11 = some 182 := by decide +kernel
theorem k204_13 : decode (mB 204) 13 = .ok (.ifCond .eq 23, 3) := by decide +kernel
theorem k204_16 : decode (mB 204) 16 = .ok (.iload_n 3, 1) := by decide +kernel
theorem k204_17 : decode (mB 204) 17 = .ok (.iconst 0, 1) := by decide +kernel
theorem k204_18 : decode (mB 204) 18 = .ok (.bipush 9, 2) := by decide +kernel
theorem k204_20 : decode (mB 204) 20 = .ok (.invokestatic 59, 3) ∧ tM (mO 204) 59 = none ∧ tS (mO 204) 59 = some 155 := by decide +kernel
theorem k204_23 : decode (mB 204) 23 = .ok (.ifCond .eq 13, 3) := by decide +kernel
theorem k204_26 : decode (mB 204) 26 = .ok (.iload 4, 2) := by decide +kernel
theorem k204_28 : decode (mB 204) 28 = .ok (.iconst (-1), 1) := by decide +kernel
theorem k204_29 : decode (mB 204) 29 = .ok (.iconst 2, 1) := by decide +kernel
theorem k204_30 : decode (mB 204) 30 = .ok (.invokestatic 59, 3) ∧ tM (mO 204) 59 = none ∧ tS (mO 204) 59 = some 155 := by decide +kernel
theorem k204_33 : decode (mB 204) 33 = .ok (.ifCond .ne 6, 3) := by decide +kernel
theorem k204_36 : decode (mB 204) 36 = .ok (.ldc 67, 2) ∧ tK (mO 204) 67 = some (-1000001) := by decide +kernel
theorem k204_38 : decode (mB 204) 38 = .ok (.ireturn, 1) ∧ mR 204 = (some .int) := by decide +kernel
theorem k204_39 : decode (mB 204) 39 = .ok (.iconst 0, 1) := by decide +kernel
theorem k204_40 : decode (mB 204) 40 = .ok (.istore 5, 2) := by decide +kernel
theorem k204_42 : decode (mB 204) 42 = .ok (.iload 5, 2) := by decide +kernel
theorem k204_44 : decode (mB 204) 44 = .ok (.iconst 4, 1) := by decide +kernel
theorem k204_45 : decode (mB 204) 45 = .ok (.if_icmp .ge 156, 3) := by decide +kernel
theorem k204_48 : decode (mB 204) 48 = .ok (.iconst 0, 1) := by decide +kernel
theorem k204_49 : decode (mB 204) 49 = .ok (.istore 6, 2) := by decide +kernel
theorem k204_51 : decode (mB 204) 51 = .ok (.iload 6, 2) := by decide +kernel
theorem k204_53 : decode (mB 204) 53 = .ok (.iconst 5, 1) := by decide +kernel
theorem k204_54 : decode (mB 204) 54 = .ok (.if_icmp .ge 17, 3) := by decide +kernel
theorem k204_57 : decode (mB 204) 57 = .ok (.aload_n 0, 1) := by decide +kernel
theorem k204_58 : decode (mB 204) 58 = .ok (.getfield 44, 3) ∧ tF (mO 204) 44 = some (11, 20, 1, 1) := by decide +kernel
theorem k204_61 : decode (mB 204) 61 = .ok (.iload 6, 2) := by decide +kernel
theorem k204_63 : decode (mB 204) 63 = .ok (.iconst 0, 1) := by decide +kernel
theorem k204_64 : decode (mB 204) 64 = .ok (.iastore, 1) := by decide +kernel
theorem k204_65 : decode (mB 204) 65 = .ok (.iinc 6 1, 3) := by decide +kernel
theorem k204_68 : decode (mB 204) 68 = .ok (.goto (-17), 3) := by decide +kernel
theorem k204_71 : decode (mB 204) 71 = .ok (.iconst 1, 1) := by decide +kernel
theorem k204_72 : decode (mB 204) 72 = .ok (.istore 6, 2) := by decide +kernel
theorem k204_74 : decode (mB 204) 74 = .ok (.iload 6, 2) := by decide +kernel
theorem k204_76 : decode (mB 204) 76 = .ok (.ifCond .eq 119, 3) := by decide +kernel
theorem k204_79 : decode (mB 204) 79 = .ok (.aload_n 0, 1) := by decide +kernel
theorem k204_80 : decode (mB 204) 80 = .ok (.getfield 25, 3) ∧ tF (mO 204) 25 = some (11, 13, 1, 1) := by decide +kernel
theorem k204_83 : decode (mB 204) 83 = .ok (.iconst 0, 1) := by decide +kernel
theorem k204_84 : decode (mB 204) 84 = .ok (.aload_n 0, 1) := by decide +kernel
theorem k204_85 : decode (mB 204) 85 = .ok (.getfield 31, 3) ∧ tF (mO 204) 31 = some (11, 15, 1, 1) := by decide +kernel
theorem k204_88 : decode (mB 204) 88 = .ok (.iconst 0, 1) := by decide +kernel
theorem k204_89 : decode (mB 204) 89 = .ok (.invokestatic 141, 3) ∧ tM (mO 204) 141 = none ∧ tS (mO 204) 141 = some 159 := by decide +kernel
theorem k204_92 : decode (mB 204) 92 = .ok (.iconst 0, 1) := by decide +kernel
theorem k204_93 : decode (mB 204) 93 = .ok (.istore 7, 2) := by decide +kernel
theorem k204_95 : decode (mB 204) 95 = .ok (.iload 7, 2) := by decide +kernel
theorem k204_97 : decode (mB 204) 97 = .ok (.iload 5, 2) := by decide +kernel
theorem k204_99 : decode (mB 204) 99 = .ok (.if_icmp .ge 25, 3) := by decide +kernel
theorem k204_102 : decode (mB 204) 102 = .ok (.aload_n 0, 1) := by decide +kernel
theorem k204_103 : decode (mB 204) 103 = .ok (.getfield 31, 3) ∧ tF (mO 204) 31 = some (11, 15, 1, 1) := by decide +kernel
theorem k204_106 : decode (mB 204) 106 = .ok (.aload_n 0, 1) := by decide +kernel
theorem k204_107 : decode (mB 204) 107 = .ok (.getfield 44, 3) ∧ tF (mO 204) 44 = some (11, 20, 1, 1) := by decide +kernel
theorem k204_110 : decode (mB 204) 110 = .ok (.iload 7, 2) := by decide +kernel
theorem k204_112 : decode (mB 204) 112 = .ok (.iaload, 1) := by decide +kernel
theorem k204_113 : decode (mB 204) 113 = .ok (.iload_n 2, 1) := by decide +kernel
theorem k204_114 : decode (mB 204) 114 = .ok (.invokestatic 156, 3) ∧ tM (mO 204) 156 = none ∧ tS (mO 204) 156 = some 186 := by decide +kernel
theorem k204_117 : decode (mB 204) 117 = .ok (.pop, 1) := by decide +kernel
theorem k204_118 : decode (mB 204) 118 = .ok (.iinc 7 1, 3) := by decide +kernel
theorem k204_121 : decode (mB 204) 121 = .ok (.goto (-26), 3) := by decide +kernel
theorem k204_124 : decode (mB 204) 124 = .ok (.aload_n 0, 1) := by decide +kernel
theorem k204_125 : decode (mB 204) 125 = .ok (.getfield 31, 3) ∧ tF (mO 204) 31 = some (11, 15, 1, 1) := by decide +kernel
theorem k204_128 : decode (mB 204) 128 = .ok (.iload_n 2, 1) := by decide +kernel
theorem k204_129 : decode (mB 204) 129 = .ok (.aload_n 0, 1) := by decide +kernel
theorem k204_130 : decode (mB 204) 130 = .ok (.getfield 25, 3) ∧ tF (mO 204) 25 = some (11, 13, 1, 1) := by decide +kernel
theorem k204_133 : decode (mB 204) 133 = .ok (.bipush 28, 2) := by decide +kernel
theorem k204_135 : decode (mB 204) 135 = .ok (.iconst 4, 1) := by decide +kernel
theorem k204_136 : decode (mB 204) 136 = .ok (.iload_n 1, 1) := by decide +kernel
theorem k204_137 : decode (mB 204) 137 = .ok (.imul, 1) := by decide +kernel
theorem k204_138 : decode (mB 204) 138 = .ok (.iadd, 1) := by decide +kernel
theorem k204_139 : decode (mB 204) 139 = .ok (.iaload, 1) := by decide +kernel
theorem k204_140 : decode (mB 204) 140 = .ok (.invokestatic 152, 3) ∧ tM (mO 204) 152 = none ∧ tS (mO 204) 152 = some 185 := by decide +kernel
theorem k204_143 : decode (mB 204) 143 = .ok (.iload_n 3, 1) := by decide +kernel
theorem k204_144 : decode (mB 204) 144 = .ok (.if_icmp .ne 34, 3) := by decide +kernel
theorem k204_147 : decode (mB 204) 147 = .ok (.iload 4, 2) := by decide +kernel
theorem k204_149 : decode (mB 204) 149 = .ok (.iconst (-1), 1) := by decide +kernel
theorem k204_150 : decode (mB 204) 150 = .ok (.if_icmp .ne 8, 3) := by decide +kernel
theorem k204_153 : decode (mB 204) 153 = .ok (.iload 5, 2) := by decide +kernel
theorem k204_155 : decode (mB 204) 155 = .ok (.goto 22, 3) := by decide +kernel
theorem k204_158 : decode (mB 204) 158 = .ok (.iload 4, 2) := by decide +kernel
theorem k204_160 : decode (mB 204) 160 = .ok (.iload 5, 2) := by decide +kernel
theorem k204_162 : decode (mB 204) 162 = .ok (.if_icmp .ge 13, 3) := by decide +kernel
theorem k204_165 : decode (mB 204) 165 = .ok (.aload_n 0, 1) := by decide +kernel
theorem k204_166 : decode (mB 204) 166 = .ok (.getfield 44, 3) ∧ tF (mO 204) 44 = some (11, 20, 1, 1) := by decide +kernel
theorem k204_169 : decode (mB 204) 169 = .ok (.iload 4, 2) := by decide +kernel
theorem k204_171 : decode (mB 204) 171 = .ok (.iaload, 1) := by decide +kernel
theorem k204_172 : decode (mB 204) 172 = .ok (.goto 5, 3) := by decide +kernel
theorem k204_175 : decode (mB 204) 175 = .ok (.ldc 53, 2) ∧ tK (mO 204) 53 = some (-1000000) := by decide +kernel
theorem k204_177 : decode (mB 204) 177 = .ok (.ireturn, 1) ∧ mR 204 = (some .int) := by decide +kernel
theorem k204_178 : decode (mB 204) 178 = .ok (.aload_n 0, 1) := by decide +kernel
theorem k204_179 : decode (mB 204) 179 = .ok (.iload 5, 2) := by decide +kernel
theorem k204_181 : decode (mB 204) 181 = .ok (.aload_n 0, 1) := by decide +kernel
theorem k204_182 : decode (mB 204) 182 = .ok (.getfield 25, 3) ∧ tF (mO 204) 25 = some (11, 13, 1, 1) := by decide +kernel
theorem k204_185 : decode (mB 204) 185 = .ok (.iconst 2, 1) := by decide +kernel
theorem k204_186 : decode (mB 204) 186 = .ok (.iaload, 1) := by decide +kernel
theorem k204_187 : decode (mB 204) 187 = .ok (.invokevirtual 191, 3) ∧ tVn (mO 204) 191 = some 2 ∧ tV (mO 204) 191 11 = some 201 := by decide +kernel
theorem k204_190 : decode (mB 204) 190 = .ok (.istore 6, 2) := by decide +kernel
theorem k204_192 : decode (mB 204) 192 = .ok (.goto (-118), 3) := by decide +kernel
theorem k204_195 : decode (mB 204) 195 = .ok (.iinc 5 1, 3) := by decide +kernel
theorem k204_198 : decode (mB 204) 198 = .ok (.goto (-156), 3) := by decide +kernel
theorem k204_201 : decode (mB 204) 201 = .ok (.ldc 53, 2) ∧ tK (mO 204) 53 = some (-1000000) := by decide +kernel
theorem k204_203 : decode (mB 204) 203 = .ok (.ireturn, 1) ∧ mR 204 = (some .int) := by decide +kernel
-- 205: ChairPastModel.pure:(II)I, locals 5
theorem l205 : mL 205 = 5 := by decide +kernel
theorem k205_0 : decode (mB 205) 0 = .ok (.aload_n 0, 1) := by decide +kernel
theorem k205_1 : decode (mB 205) 1 = .ok (.iload_n 1, 1) := by decide +kernel
theorem k205_2 : decode (mB 205) 2 = .ok (.invokevirtual 167, 3) ∧ tVn (mO 205) 167 = some 1 ∧ tV (mO 205) 167 11 = some 183 := by decide +kernel
theorem k205_5 : decode (mB 205) 5 = .ok (.ifCond .eq 11, 3) := by decide +kernel
theorem k205_8 : decode (mB 205) 8 = .ok (.aload_n 0, 1) := by decide +kernel
theorem k205_9 : decode (mB 205) 9 = .ok (.iload_n 2, 1) := by decide +kernel
theorem k205_10 : decode (mB 205) 10 = .ok (.invokevirtual 170, 3) ∧ tVn (mO 205) 170 = some 1 ∧ tV (mO 205) 170 11 = some 182 := by decide +kernel
theorem k205_13 : decode (mB 205) 13 = .ok (.ifCond .ne 6, 3) := by decide +kernel
theorem k205_16 : decode (mB 205) 16 = .ok (.ldc 67, 2) ∧ tK (mO 205) 67 = some (-1000001) := by decide +kernel
theorem k205_18 : decode (mB 205) 18 = .ok (.ireturn, 1) ∧ mR 205 = (some .int) := by decide +kernel
theorem k205_19 : decode (mB 205) 19 = .ok (.aload_n 0, 1) := by decide +kernel
theorem k205_20 : decode (mB 205) 20 = .ok (.getfield 25, 3) ∧ tF (mO 205) 25 = some (11, 13, 1, 1) := by decide +kernel
theorem k205_23 : decode (mB 205) 23 = .ok (.iconst 0, 1) := by decide +kernel
theorem k205_24 : decode (mB 205) 24 = .ok (.aload_n 0, 1) := by decide +kernel
theorem k205_25 : decode (mB 205) 25 = .ok (.getfield 31, 3) ∧ tF (mO 205) 31 = some (11, 15, 1, 1) := by decide +kernel
theorem k205_28 : decode (mB 205) 28 = .ok (.iconst 0, 1) := by decide +kernel
theorem k205_29 : decode (mB 205) 29 = .ok (.invokestatic 141, 3) ∧ tM (mO 205) 141 = none ∧ tS (mO 205) 141 = some 159 := by decide +kernel
theorem k205_32 : decode (mB 205) 32 = .ok (.aload_n 0, 1) := by decide +kernel
theorem k205_33 : decode (mB 205) 33 = .ok (.getfield 25, 3) ∧ tF (mO 205) 25 = some (11, 13, 1, 1) := by decide +kernel
theorem k205_36 : decode (mB 205) 36 = .ok (.bipush 28, 2) := by decide +kernel
theorem k205_38 : decode (mB 205) 38 = .ok (.iconst 4, 1) := by decide +kernel
theorem k205_39 : decode (mB 205) 39 = .ok (.iload_n 1, 1) := by decide +kernel
theorem k205_40 : decode (mB 205) 40 = .ok (.imul, 1) := by decide +kernel
theorem k205_41 : decode (mB 205) 41 = .ok (.iadd, 1) := by decide +kernel
theorem k205_42 : decode (mB 205) 42 = .ok (.iaload, 1) := by decide +kernel
theorem k205_43 : decode (mB 205) 43 = .ok (.istore_n 3, 1) := by decide +kernel
theorem k205_44 : decode (mB 205) 44 = .ok (.iconst 0, 1) := by decide +kernel
theorem k205_45 : decode (mB 205) 45 = .ok (.istore 4, 2) := by decide +kernel
theorem k205_47 : decode (mB 205) 47 = .ok (.iload 4, 2) := by decide +kernel
theorem k205_49 : decode (mB 205) 49 = .ok (.bipush 21, 2) := by decide +kernel
theorem k205_51 : decode (mB 205) 51 = .ok (.if_icmp .ge 35, 3) := by decide +kernel
theorem k205_54 : decode (mB 205) 54 = .ok (.aload_n 0, 1) := by decide +kernel
theorem k205_55 : decode (mB 205) 55 = .ok (.getfield 31, 3) ∧ tF (mO 205) 31 = some (11, 15, 1, 1) := by decide +kernel
theorem k205_58 : decode (mB 205) 58 = .ok (.iload_n 2, 1) := by decide +kernel
theorem k205_59 : decode (mB 205) 59 = .ok (.iload_n 3, 1) := by decide +kernel
theorem k205_60 : decode (mB 205) 60 = .ok (.invokestatic 152, 3) ∧ tM (mO 205) 152 = none ∧ tS (mO 205) 152 = some 185 := by decide +kernel
theorem k205_63 : decode (mB 205) 63 = .ok (.iload_n 3, 1) := by decide +kernel
theorem k205_64 : decode (mB 205) 64 = .ok (.if_icmp .ne 6, 3) := by decide +kernel
theorem k205_67 : decode (mB 205) 67 = .ok (.iload 4, 2) := by decide +kernel
theorem k205_69 : decode (mB 205) 69 = .ok (.ireturn, 1) ∧ mR 205 = (some .int) := by decide +kernel
theorem k205_70 : decode (mB 205) 70 = .ok (.aload_n 0, 1) := by decide +kernel
theorem k205_71 : decode (mB 205) 71 = .ok (.getfield 31, 3) ∧ tF (mO 205) 31 = some (11, 15, 1, 1) := by decide +kernel
theorem k205_74 : decode (mB 205) 74 = .ok (.iload_n 1, 1) := by decide +kernel
theorem k205_75 : decode (mB 205) 75 = .ok (.iload_n 2, 1) := by decide +kernel
theorem k205_76 : decode (mB 205) 76 = .ok (.invokestatic 156, 3) ∧ tM (mO 205) 156 = none ∧ tS (mO 205) 156 = some 186 := by decide +kernel
theorem k205_79 : decode (mB 205) 79 = .ok (.pop, 1) := by decide +kernel
theorem k205_80 : decode (mB 205) 80 = .ok (.iinc 4 1, 3) := by decide +kernel
theorem k205_83 : decode (mB 205) 83 = .ok (.goto (-36), 3) := by decide +kernel
theorem k205_86 : decode (mB 205) 86 = .ok (.ldc 53, 2) ∧ tK (mO 205) 53 = some (-1000000) := by decide +kernel
theorem k205_88 : decode (mB 205) 88 = .ok (.ireturn, 1) ∧ mR 205 = (some .int) := by decide +kernel
-- 206: ChairPastModel.isLeft:(III)Z, locals 4
theorem l206 : mL 206 = 4 := by decide +kernel
theorem k206_0 : decode (mB 206) 0 = .ok (.aload_n 0, 1) := by decide +kernel
theorem k206_1 : decode (mB 206) 1 = .ok (.getfield 31, 3) ∧ tF (mO 206) 31 = some (11, 15, 1, 1) := by decide +kernel
theorem k206_4 : decode (mB 206) 4 = .ok (.iconst 3, 1) := by decide +kernel
theorem k206_5 : decode (mB 206) 5 = .ok (.iconst 5, 1) := by decide +kernel
theorem k206_6 : decode (mB 206) 6 = .ok (.iload_n 1, 1) := by decide +kernel
theorem k206_7 : decode (mB 206) 7 = .ok (.imul, 1) := by decide +kernel
theorem k206_8 : decode (mB 206) 8 = .ok (.iadd, 1) := by decide +kernel
theorem k206_9 : decode (mB 206) 9 = .ok (.iconst 1, 1) := by decide +kernel
theorem k206_10 : decode (mB 206) 10 = .ok (.iadd, 1) := by decide +kernel
theorem k206_11 : decode (mB 206) 11 = .ok (.iaload, 1) := by decide +kernel
theorem k206_12 : decode (mB 206) 12 = .ok (.iload_n 2, 1) := by decide +kernel
theorem k206_13 : decode (mB 206) 13 = .ok (.if_icmp .ne 23, 3) := by decide +kernel
theorem k206_16 : decode (mB 206) 16 = .ok (.aload_n 0, 1) := by decide +kernel
theorem k206_17 : decode (mB 206) 17 = .ok (.getfield 31, 3) ∧ tF (mO 206) 31 = some (11, 15, 1, 1) := by decide +kernel
theorem k206_20 : decode (mB 206) 20 = .ok (.iconst 3, 1) := by decide +kernel
theorem k206_21 : decode (mB 206) 21 = .ok (.iconst 5, 1) := by decide +kernel
theorem k206_22 : decode (mB 206) 22 = .ok (.iload_n 1, 1) := by decide +kernel
theorem k206_23 : decode (mB 206) 23 = .ok (.imul, 1) := by decide +kernel
theorem k206_24 : decode (mB 206) 24 = .ok (.iadd, 1) := by decide +kernel
theorem k206_25 : decode (mB 206) 25 = .ok (.iconst 2, 1) := by decide +kernel
theorem k206_26 : decode (mB 206) 26 = .ok (.iadd, 1) := by decide +kernel
theorem k206_27 : decode (mB 206) 27 = .ok (.iaload, 1) := by decide +kernel
theorem k206_28 : decode (mB 206) 28 = .ok (.iload_n 3, 1) := by decide +kernel
theorem k206_29 : decode (mB 206) 29 = .ok (.if_icmp .ne 7, 3) := by decide +kernel
theorem k206_32 : decode (mB 206) 32 = .ok (.iconst 1, 1) := by decide +kernel
theorem k206_33 : decode (mB 206) 33 = .ok (.goto 4, 3) := by decide +kernel
theorem k206_36 : decode (mB 206) 36 = .ok (.iconst 0, 1) := by decide +kernel
theorem k206_37 : decode (mB 206) 37 = .ok (.ireturn, 1) ∧ mR 206 = (some .boolean) := by decide +kernel
-- 207: ChairPastModel.between:(IIII)I, locals 9
theorem l207 : mL 207 = 9 := by decide +kernel
theorem k207_0 : decode (mB 207) 0 = .ok (.aload_n 0, 1) := by decide +kernel
theorem k207_1 : decode (mB 207) 1 = .ok (.iload_n 1, 1) := by decide +kernel
theorem k207_2 : decode (mB 207) 2 = .ok (.invokevirtual 170, 3) ∧ tVn (mO 207) 170 = some 1 ∧ tV (mO 207) 170 11 = some 182 := by decide +kernel
theorem k207_5 : decode (mB 207) 5 = .ok (.ifCond .eq 33, 3) := by decide +kernel
theorem k207_8 : decode (mB 207) 8 = .ok (.iload_n 2, 1) := by decide +kernel
theorem k207_9 : decode (mB 207) 9 = .ok (.iconst 0, 1) := by decide +kernel
theorem k207_10 : decode (mB 207) 10 = .ok (.bipush 9, 2) := by decide +kernel
theorem k207_12 : decode (mB 207) 12 = .ok (.invokestatic 59, 3) ∧ tM (mO 207) 59 = none ∧ tS (mO 207) 59 = some 155 := by decide +kernel
theorem k207_15 : decode (mB 207) 15 = .ok (.ifCond .eq 23, 3) := by decide +kernel
theorem k207_18 : decode (mB 207) 18 = .ok (.iload_n 3, 1) := by decide +kernel
theorem k207_19 : decode (mB 207) 19 = .ok (.iconst 0, 1) := by decide +kernel
theorem k207_20 : decode (mB 207) 20 = .ok (.bipush 16, 2) := by decide +kernel
theorem k207_22 : decode (mB 207) 22 = .ok (.invokestatic 59, 3) ∧ tM (mO 207) 59 = none ∧ tS (mO 207) 59 = some 155 := by decide +kernel
theorem k207_25 : decode (mB 207) 25 = .ok (.ifCond .eq 13, 3) := by decide +kernel
theorem k207_28 : decode (mB 207) 28 = .ok (.iload 4, 2) := by decide +kernel
theorem k207_30 : decode (mB 207) 30 = .ok (.iconst 0, 1) := by decide +kernel
theorem k207_31 : decode (mB 207) 31 = .ok (.iconst 1, 1) := by decide +kernel
theorem k207_32 : decode (mB 207) 32 = .ok (.invokestatic 59, 3) ∧ tM (mO 207) 59 = none ∧ tS (mO 207) 59 = some 155 := by decide +kernel
theorem k207_35 : decode (mB 207) 35 = .ok (.ifCond .ne 6, 3) := by decide +kernel
theorem k207_38 : decode (mB 207) 38 = .ok (.ldc 67, 2) ∧ tK (mO 207) 67 = some (-1000001) := by decide +kernel
theorem k207_40 : decode (mB 207) 40 = .ok (.ireturn, 1) ∧ mR 207 = (some .int) := by decide +kernel
theorem k207_41 : decode (mB 207) 41 = .ok (.iconst 0, 1) := by decide +kernel
theorem k207_42 : decode (mB 207) 42 = .ok (.istore 5, 2) := by decide +kernel
theorem k207_44 : decode (mB 207) 44 = .ok (.iconst 0, 1) := by decide +kernel
theorem k207_45 : decode (mB 207) 45 = .ok (.istore 6, 2) := by decide +kernel
theorem k207_47 : decode (mB 207) 47 = .ok (.iconst 0, 1) := by decide +kernel
theorem k207_48 : decode (mB 207) 48 = .ok (.istore 7, 2) := by decide +kernel
theorem k207_50 : decode (mB 207) 50 = .ok (.iload 7, 2) := by decide +kernel
theorem k207_52 : decode (mB 207) 52 = .ok (.aload_n 0, 1) := by decide +kernel
theorem k207_53 : decode (mB 207) 53 = .ok (.getfield 25, 3) ∧ tF (mO 207) 25 = some (11, 13, 1, 1) := by decide +kernel
theorem k207_56 : decode (mB 207) 56 = .ok (.iconst 2, 1) := by decide +kernel
theorem k207_57 : decode (mB 207) 57 = .ok (.iaload, 1) := by decide +kernel
theorem k207_58 : decode (mB 207) 58 = .ok (.if_icmp .ge 131, 3) := by decide +kernel
theorem k207_61 : decode (mB 207) 61 = .ok (.aload_n 0, 1) := by decide +kernel
theorem k207_62 : decode (mB 207) 62 = .ok (.getfield 25, 3) ∧ tF (mO 207) 25 = some (11, 13, 1, 1) := by decide +kernel
theorem k207_65 : decode (mB 207) 65 = .ok (.iconst 0, 1) := by decide +kernel
theorem k207_66 : decode (mB 207) 66 = .ok (.aload_n 0, 1) := by decide +kernel
theorem k207_67 : decode (mB 207) 67 = .ok (.getfield 31, 3) ∧ tF (mO 207) 31 = some (11, 15, 1, 1) := by decide +kernel
theorem k207_70 : decode (mB 207) 70 = .ok (.iconst 0, 1) := by decide +kernel
theorem k207_71 : decode (mB 207) 71 = .ok (.invokestatic 141, 3) ∧ tM (mO 207) 141 = none ∧ tS (mO 207) 141 = some 159 := by decide +kernel
theorem k207_74 : decode (mB 207) 74 = .ok (.aload_n 0, 1) := by decide +kernel
theorem k207_75 : decode (mB 207) 75 = .ok (.getfield 31, 3) ∧ tF (mO 207) 31 = some (11, 15, 1, 1) := by decide +kernel
theorem k207_78 : decode (mB 207) 78 = .ok (.iload 7, 2) := by decide +kernel
theorem k207_80 : decode (mB 207) 80 = .ok (.iload_n 1, 1) := by decide +kernel
theorem k207_81 : decode (mB 207) 81 = .ok (.invokestatic 156, 3) ∧ tM (mO 207) 156 = none ∧ tS (mO 207) 156 = some 186 := by decide +kernel
theorem k207_84 : decode (mB 207) 84 = .ok (.pop, 1) := by decide +kernel
theorem k207_85 : decode (mB 207) 85 = .ok (.iload 5, 2) := by decide +kernel
theorem k207_87 : decode (mB 207) 87 = .ok (.aload_n 0, 1) := by decide +kernel
theorem k207_88 : decode (mB 207) 88 = .ok (.iload_n 1, 1) := by decide +kernel
theorem k207_89 : decode (mB 207) 89 = .ok (.iload_n 2, 1) := by decide +kernel
theorem k207_90 : decode (mB 207) 90 = .ok (.iload_n 3, 1) := by decide +kernel
theorem k207_91 : decode (mB 207) 91 = .ok (.invokevirtual 195, 3) ∧ tVn (mO 207) 195 = some 3 ∧ tV (mO 207) 195 11 = some 206 := by decide +kernel
theorem k207_94 : decode (mB 207) 94 = .ok (.ifCond .eq 10, 3) := by decide +kernel
theorem k207_97 : decode (mB 207) 97 = .ok (.iconst 1, 1) := by decide +kernel
theorem k207_98 : decode (mB 207) 98 = .ok (.iload 7, 2) := by decide +kernel
theorem k207_100 : decode (mB 207) 100 = .ok (.ishl, 1) := by decide +kernel
theorem k207_101 : decode (mB 207) 101 = .ok (.goto 4, 3) := by decide +kernel
theorem k207_104 : decode (mB 207) 104 = .ok (.iconst 0, 1) := by decide +kernel
theorem k207_105 : decode (mB 207) 105 = .ok (.ior, 1) := by decide +kernel
theorem k207_106 : decode (mB 207) 106 = .ok (.istore 5, 2) := by decide +kernel
theorem k207_108 : decode (mB 207) 108 = .ok (.iconst 0, 1) := by decide +kernel
theorem k207_109 : decode (mB 207) 109 = .ok (.istore 8, 2) := by decide +kernel
theorem k207_111 : decode (mB 207) 111 = .ok (.iload 8, 2) := by decide +kernel
theorem k207_113 : decode (mB 207) 113 = .ok (.aload_n 0, 1) := by decide +kernel
theorem k207_114 : decode (mB 207) 114 = .ok (.getfield 25, 3) ∧ tF (mO 207) 25 = some (11, 13, 1, 1) := by decide +kernel
theorem k207_117 : decode (mB 207) 117 = .ok (.iconst 2, 1) := by decide +kernel
theorem k207_118 : decode (mB 207) 118 = .ok (.iaload, 1) := by decide +kernel
theorem k207_119 : decode (mB 207) 119 = .ok (.if_icmp .ge 64, 3) := by decide +kernel
theorem k207_122 : decode (mB 207) 122 = .ok (.aload_n 0, 1) := by decide +kernel
theorem k207_123 : decode (mB 207) 123 = .ok (.getfield 25, 3) ∧ tF (mO 207) 25 = some (11, 13, 1, 1) := by decide +kernel
theorem k207_126 : decode (mB 207) 126 = .ok (.iconst 0, 1) := by decide +kernel
theorem k207_127 : decode (mB 207) 127 = .ok (.aload_n 0, 1) := by decide +kernel
theorem k207_128 : decode (mB 207) 128 = .ok (.getfield 31, 3) ∧ tF (mO 207) 31 = some (11, 15, 1, 1) := by decide +kernel
theorem k207_131 : decode (mB 207) 131 = .ok (.iconst 0, 1) := by decide +kernel
theorem k207_132 : decode (mB 207) 132 = .ok (.invokestatic 141, 3) ∧ tM (mO 207) 141 = none ∧ tS (mO 207) 141 = some 159 := by decide +kernel
theorem k207_135 : decode (mB 207) 135 = .ok (.aload_n 0, 1) := by decide +kernel
theorem k207_136 : decode (mB 207) 136 = .ok (.getfield 31, 3) ∧ tF (mO 207) 31 = some (11, 15, 1, 1) := by decide +kernel
theorem k207_139 : decode (mB 207) 139 = .ok (.iload 7, 2) := by decide +kernel
theorem k207_141 : decode (mB 207) 141 = .ok (.iload_n 1, 1) := by decide +kernel
theorem k207_142 : decode (mB 207) 142 = .ok (.invokestatic 156, 3) ∧ tM (mO 207) 156 = none ∧ tS (mO 207) 156 = some 186 := by decide +kernel
theorem k207_145 : decode (mB 207) 145 = .ok (.pop, 1) := by decide +kernel
theorem k207_146 : decode (mB 207) 146 = .ok (.aload_n 0, 1) := by decide +kernel
theorem k207_147 : decode (mB 207) 147 = .ok (.getfield 31, 3) ∧ tF (mO 207) 31 = some (11, 15, 1, 1) := by decide +kernel
theorem k207_150 : decode (mB 207) 150 = .ok (.iload 8, 2) := by decide +kernel
theorem k207_152 : decode (mB 207) 152 = .ok (.iload_n 1, 1) := by decide +kernel
theorem k207_153 : decode (mB 207) 153 = .ok (.invokestatic 156, 3) ∧ tM (mO 207) 156 = none ∧ tS (mO 207) 156 = some 186 := by decide +kernel
theorem k207_156 : decode (mB 207) 156 = .ok (.pop, 1) := by decide +kernel
theorem k207_157 : decode (mB 207) 157 = .ok (.iload 6, 2) := by decide +kernel
theorem k207_159 : decode (mB 207) 159 = .ok (.aload_n 0, 1) := by decide +kernel
theorem k207_160 : decode (mB 207) 160 = .ok (.iload_n 1, 1) := by decide +kernel
theorem k207_161 : decode (mB 207) 161 = .ok (.iload_n 2, 1) := by decide +kernel
theorem k207_162 : decode (mB 207) 162 = .ok (.iload_n 3, 1) := by decide +kernel
theorem k207_163 : decode (mB 207) 163 = .ok (.invokevirtual 195, 3) ∧ tVn (mO 207) 195 = some 3 ∧ tV (mO 207) 195 11 = some 206 := by decide +kernel
theorem k207_166 : decode (mB 207) 166 = .ok (.ifCond .eq 7, 3) := by decide +kernel
theorem k207_169 : decode (mB 207) 169 = .ok (.iconst 1, 1) := by decide +kernel
theorem k207_170 : decode (mB 207) 170 = .ok (.goto 4, 3) := by decide +kernel
theorem k207_173 : decode (mB 207) 173 = .ok (.iconst 0, 1) := by decide +kernel
theorem k207_174 : decode (mB 207) 174 = .ok (.iadd, 1) := by decide +kernel
theorem k207_175 : decode (mB 207) 175 = .ok (.istore 6, 2) := by decide +kernel
theorem k207_177 : decode (mB 207) 177 = .ok (.iinc 8 1, 3) := by decide +kernel
theorem k207_180 : decode (mB 207) 180 = .ok (.goto (-69), 3) := by decide +kernel
theorem k207_183 : decode (mB 207) 183 = .ok (.iinc 7 1, 3) := by decide +kernel
theorem k207_186 : decode (mB 207) 186 = .ok (.goto (-136), 3) := by decide +kernel
theorem k207_189 : decode (mB 207) 189 = .ok (.iload 4, 2) := by decide +kernel
theorem k207_191 : decode (mB 207) 191 = .ok (.ifCond .ne 8, 3) := by decide +kernel
theorem k207_194 : decode (mB 207) 194 = .ok (.iload 5, 2) := by decide +kernel
theorem k207_196 : decode (mB 207) 196 = .ok (.goto 5, 3) := by decide +kernel
theorem k207_199 : decode (mB 207) 199 = .ok (.iload 6, 2) := by decide +kernel
theorem k207_201 : decode (mB 207) 201 = .ok (.ireturn, 1) ∧ mR 207 = (some .int) := by decide +kernel
