-- 225: ChairPastModel.trace:(I)I, locals 2
theorem l225 : mL 225 = 2 := by decide +kernel
theorem k225_0 : decode (mB 225) 0 = .ok (.iload_n 1, 1) := by decide +kernel
theorem k225_1 : decode (mB 225) 1 = .ok (.iconst 0, 1) := by decide +kernel
theorem k225_2 : decode (mB 225) 2 = .ok (.aload_n 0, 1) := by decide +kernel
theorem k225_3 : decode (mB 225) 3 = .ok (.getfield 212, 3) ∧ tF (mO 225) 212 = some (11, 23, 0, 0) := by decide +kernel
theorem k225_6 : decode (mB 225) 6 = .ok (.iconst 1, 1) := by decide +kernel
theorem k225_7 : decode (mB 225) 7 = .ok (.isub, 1) := by decide +kernel
theorem k225_8 : decode (mB 225) 8 = .ok (.invokestatic 59, 3) ∧ tM (mO 225) 59 = none ∧ tS (mO 225) 59 = some 155 := by decide +kernel
theorem k225_11 : decode (mB 225) 11 = .ok (.ifCond .eq 12, 3) := by decide +kernel
theorem k225_14 : decode (mB 225) 14 = .ok (.aload_n 0, 1) := by decide +kernel
theorem k225_15 : decode (mB 225) 15 = .ok (.getfield 50, 3) ∧ tF (mO 225) 50 = some (11, 22, 1, 1) := by decide +kernel
theorem k225_18 : decode (mB 225) 18 = .ok (.iload_n 1, 1) := by decide +kernel
theorem k225_19 : decode (mB 225) 19 = .ok (.iaload, 1) := by decide +kernel
theorem k225_20 : decode (mB 225) 20 = .ok (.goto 5, 3) := by decide +kernel
theorem k225_23 : decode (mB 225) 23 = .ok (.ldc 53, 2) ∧ tK (mO 225) 53 = some (-1000000) := by decide +kernel
theorem k225_25 : decode (mB 225) 25 = .ok (.ireturn, 1) ∧ mR 225 = (some .int) := by decide +kernel
-- 226: ChairPastModel.sitting:()I, locals 3
theorem l226 : mL 226 = 3 := by decide +kernel
theorem k226_0 : decode (mB 226) 0 = .ok (.iconst 0, 1) := by decide +kernel
theorem k226_1 : decode (mB 226) 1 = .ok (.istore_n 1, 1) := by decide +kernel
theorem k226_2 : decode (mB 226) 2 = .ok (.iconst 0, 1) := by decide +kernel
theorem k226_3 : decode (mB 226) 3 = .ok (.istore_n 2, 1) := by decide +kernel
theorem k226_4 : decode (mB 226) 4 = .ok (.iload_n 2, 1) := by decide +kernel
theorem k226_5 : decode (mB 226) 5 = .ok (.aload_n 0, 1) := by decide +kernel
theorem k226_6 : decode (mB 226) 6 = .ok (.getfield 25, 3) ∧ tF (mO 226) 25 = some (11, 13, 1, 1) := by decide +kernel
theorem k226_9 : decode (mB 226) 9 = .ok (.iconst 2, 1) := by decide +kernel
theorem k226_10 : decode (mB 226) 10 = .ok (.iaload, 1) := by decide +kernel
theorem k226_11 : decode (mB 226) 11 = .ok (.if_icmp .ge 35, 3) := by decide +kernel
theorem k226_14 : decode (mB 226) 14 = .ok (.iload_n 1, 1) := by decide +kernel
theorem k226_15 : decode (mB 226) 15 = .ok (.aload_n 0, 1) := by decide +kernel
theorem k226_16 : decode (mB 226) 16 = .ok (.getfield 25, 3) ∧ tF (mO 226) 25 = some (11, 13, 1, 1) := by decide +kernel
theorem k226_19 : decode (mB 226) 19 = .ok (.bipush 28, 2) := by decide +kernel
theorem k226_21 : decode (mB 226) 21 = .ok (.iconst 4, 1) := by decide +kernel
theorem k226_22 : decode (mB 226) 22 = .ok (.iload_n 2, 1) := by decide +kernel
theorem k226_23 : decode (mB 226) 23 = .ok (.imul, 1) := by decide +kernel
theorem k226_24 : decode (mB 226) 24 = .ok (.iadd, 1) := by decide +kernel
theorem k226_25 : decode (mB 226) 25 = .ok (.iconst 2, 1) := by decide +kernel
theorem k226_26 : decode (mB 226) 26 = .ok (.iadd, 1) := by decide +kernel
theorem k226_27 : decode (mB 226) 27 = .ok (.iaload, 1) := by decide +kernel
theorem k226_28 : decode (mB 226) 28 = .ok (.ifCond .le 9, 3) := by decide +kernel
theorem k226_31 : decode (mB 226) 31 = .ok (.iconst 1, 1) := by decide +kernel
theorem k226_32 : decode (mB 226) 32 = .ok (.iload_n 2, 1) := by decide +kernel
theorem k226_33 : decode (mB 226) 33 = .ok (.ishl, 1) := by decide +kernel
theorem k226_34 : decode (mB 226) 34 = .ok (.goto 4, 3) := by decide +kernel
theorem k226_37 : decode (mB 226) 37 = .ok (.iconst 0, 1) := by decide +kernel
theorem k226_38 : decode (mB 226) 38 = .ok (.ior, 1) := by decide +kernel
theorem k226_39 : decode (mB 226) 39 = .ok (.istore_n 1, 1) := by decide +kernel
theorem k226_40 : decode (mB 226) 40 = .ok (.iinc 2 1, 3) := by decide +kernel
theorem k226_43 : decode (mB 226) 43 = .ok (.goto (-39), 3) := by decide +kernel
theorem k226_46 : decode (mB 226) 46 = .ok (.iload_n 1, 1) := by decide +kernel
theorem k226_47 : decode (mB 226) 47 = .ok (.ireturn, 1) ∧ mR 226 = (some .int) := by decide +kernel
-- 227: ChairPastModel.takenChairs:()I, locals 3
theorem l227 : mL 227 = 3 := by decide +kernel
theorem k227_0 : decode (mB 227) 0 = .ok (.iconst 0, 1) := by decide +kernel
theorem k227_1 : decode (mB 227) 1 = .ok (.istore_n 1, 1) := by decide +kernel
theorem k227_2 : decode (mB 227) 2 = .ok (.iconst 0, 1) := by decide +kernel
theorem k227_3 : decode (mB 227) 3 = .ok (.istore_n 2, 1) := by decide +kernel
theorem k227_4 : decode (mB 227) 4 = .ok (.iload_n 2, 1) := by decide +kernel
theorem k227_5 : decode (mB 227) 5 = .ok (.aload_n 0, 1) := by decide +kernel
theorem k227_6 : decode (mB 227) 6 = .ok (.getfield 25, 3) ∧ tF (mO 227) 25 = some (11, 13, 1, 1) := by decide +kernel
theorem k227_9 : decode (mB 227) 9 = .ok (.iconst 1, 1) := by decide +kernel
theorem k227_10 : decode (mB 227) 10 = .ok (.iaload, 1) := by decide +kernel
theorem k227_11 : decode (mB 227) 11 = .ok (.if_icmp .ge 32, 3) := by decide +kernel
theorem k227_14 : decode (mB 227) 14 = .ok (.iload_n 1, 1) := by decide +kernel
theorem k227_15 : decode (mB 227) 15 = .ok (.aload_n 0, 1) := by decide +kernel
theorem k227_16 : decode (mB 227) 16 = .ok (.getfield 25, 3) ∧ tF (mO 227) 25 = some (11, 13, 1, 1) := by decide +kernel
theorem k227_19 : decode (mB 227) 19 = .ok (.iload_n 2, 1) := by decide +kernel
theorem k227_20 : decode (mB 227) 20 = .ok (.invokestatic 159, 3) ∧ tM (mO 227) 159 = none ∧ tS (mO 227) 159 = some 187 := by decide +kernel
theorem k227_23 : decode (mB 227) 23 = .ok (.ldc 53, 2) ∧ tK (mO 227) 53 = some (-1000000) := by decide +kernel
theorem k227_25 : decode (mB 227) 25 = .ok (.if_icmp .ne 7, 3) := by decide +kernel
theorem k227_28 : decode (mB 227) 28 = .ok (.iconst 0, 1) := by decide +kernel
theorem k227_29 : decode (mB 227) 29 = .ok (.goto 6, 3) := by decide +kernel
theorem k227_32 : decode (mB 227) 32 = .ok (.iconst 1, 1) := by decide +kernel
theorem k227_33 : decode (mB 227) 33 = .ok (.iload_n 2, 1) := by decide +kernel
theorem k227_34 : decode (mB 227) 34 = .ok (.ishl, 1) := by decide +kernel
theorem k227_35 : decode (mB 227) 35 = .ok (.ior, 1) := by decide +kernel
theorem k227_36 : decode (mB 227) 36 = .ok (.istore_n 1, 1) := by decide +kernel
theorem k227_37 : decode (mB 227) 37 = .ok (.iinc 2 1, 3) := by decide +kernel
theorem k227_40 : decode (mB 227) 40 = .ok (.goto (-36), 3) := by decide +kernel
theorem k227_43 : decode (mB 227) 43 = .ok (.iload_n 1, 1) := by decide +kernel
theorem k227_44 : decode (mB 227) 44 = .ok (.ireturn, 1) ∧ mR 227 = (some .int) := by decide +kernel
-- 228: ChairPastModel.count:(I)I, locals 4
theorem l228 : mL 228 = 4 := by decide +kernel
theorem k228_0 : decode (mB 228) 0 = .ok (.iconst 0, 1) := by decide +kernel
theorem k228_1 : decode (mB 228) 1 = .ok (.istore_n 2, 1) := by decide +kernel
theorem k228_2 : decode (mB 228) 2 = .ok (.iload_n 1, 1) := by decide +kernel
theorem k228_3 : decode (mB 228) 3 = .ok (.tableswitch 118 0 7 #[45, 77, 84, 91, 96, 101, 108, 113], 45) := by decide +kernel
theorem k228_48 : decode (mB 228) 48 = .ok (.iconst 0, 1) := by decide +kernel
theorem k228_49 : decode (mB 228) 49 = .ok (.istore_n 3, 1) := by decide +kernel
theorem k228_50 : decode (mB 228) 50 = .ok (.iload_n 3, 1) := by decide +kernel
theorem k228_51 : decode (mB 228) 51 = .ok (.bipush 8, 2) := by decide +kernel
theorem k228_53 : decode (mB 228) 53 = .ok (.if_icmp .ge 25, 3) := by decide +kernel
theorem k228_56 : decode (mB 228) 56 = .ok (.iload_n 2, 1) := by decide +kernel
theorem k228_57 : decode (mB 228) 57 = .ok (.aload_n 0, 1) := by decide +kernel
theorem k228_58 : decode (mB 228) 58 = .ok (.iload_n 3, 1) := by decide +kernel
theorem k228_59 : decode (mB 228) 59 = .ok (.invokevirtual 75, 3) ∧ tVn (mO 228) 75 = some 1 ∧ tV (mO 228) 75 11 = some 161 := by decide +kernel
theorem k228_62 : decode (mB 228) 62 = .ok (.ifCond .eq 7, 3) := by decide +kernel
theorem k228_65 : decode (mB 228) 65 = .ok (.iconst 0, 1) := by decide +kernel
theorem k228_66 : decode (mB 228) 66 = .ok (.goto 4, 3) := by decide +kernel
theorem k228_69 : decode (mB 228) 69 = .ok (.iconst 1, 1) := by decide +kernel
theorem k228_70 : decode (mB 228) 70 = .ok (.iadd, 1) := by decide +kernel
theorem k228_71 : decode (mB 228) 71 = .ok (.istore_n 2, 1) := by decide +kernel
theorem k228_72 : decode (mB 228) 72 = .ok (.iinc 3 1, 3) := by decide +kernel
theorem k228_75 : decode (mB 228) 75 = .ok (.goto (-25), 3) := by decide +kernel
theorem k228_78 : decode (mB 228) 78 = .ok (.iload_n 2, 1) := by decide +kernel
theorem k228_79 : decode (mB 228) 79 = .ok (.ireturn, 1) ∧ mR 228 = (some .int) := by decide +kernel
theorem k228_80 : decode (mB 228) 80 = .ok (.aload_n 0, 1) := by decide +kernel
theorem k228_81 : decode (mB 228) 81 = .ok (.getfield 25, 3) ∧ tF (mO 228) 25 = some (11, 13, 1, 1) := by decide +kernel
theorem k228_84 : decode (mB 228) 84 = .ok (.iconst 1, 1) := by decide +kernel
theorem k228_85 : decode (mB 228) 85 = .ok (.iaload, 1) := by decide +kernel
theorem k228_86 : decode (mB 228) 86 = .ok (.ireturn, 1) ∧ mR 228 = (some .int) := by decide +kernel
theorem k228_87 : decode (mB 228) 87 = .ok (.aload_n 0, 1) := by decide +kernel
theorem k228_88 : decode (mB 228) 88 = .ok (.getfield 25, 3) ∧ tF (mO 228) 25 = some (11, 13, 1, 1) := by decide +kernel
theorem k228_91 : decode (mB 228) 91 = .ok (.iconst 2, 1) := by decide +kernel
theorem k228_92 : decode (mB 228) 92 = .ok (.iaload, 1) := by decide +kernel
theorem k228_93 : decode (mB 228) 93 = .ok (.ireturn, 1) ∧ mR 228 = (some .int) := by decide +kernel
theorem k228_94 : decode (mB 228) 94 = .ok (.aload_n 0, 1) := by decide +kernel
theorem k228_95 : decode (mB 228) 95 = .ok (.invokevirtual 231, 3) ∧ tVn (mO 228) 231 = some 0 ∧ tV (mO 228) 231 11 = some 226 := by decide +kernel
theorem k228_98 : decode (mB 228) 98 = .ok (.ireturn, 1) ∧ mR 228 = (some .int) := by decide +kernel
theorem k228_99 : decode (mB 228) 99 = .ok (.aload_n 0, 1) := by decide +kernel
theorem k228_100 : decode (mB 228) 100 = .ok (.invokevirtual 235, 3) ∧ tVn (mO 228) 235 = some 0 ∧ tV (mO 228) 235 11 = some 227 := by decide +kernel
theorem k228_103 : decode (mB 228) 103 = .ok (.ireturn, 1) ∧ mR 228 = (some .int) := by decide +kernel
theorem k228_104 : decode (mB 228) 104 = .ok (.aload_n 0, 1) := by decide +kernel
theorem k228_105 : decode (mB 228) 105 = .ok (.getfield 25, 3) ∧ tF (mO 228) 25 = some (11, 13, 1, 1) := by decide +kernel
theorem k228_108 : decode (mB 228) 108 = .ok (.iconst 0, 1) := by decide +kernel
theorem k228_109 : decode (mB 228) 109 = .ok (.iaload, 1) := by decide +kernel
theorem k228_110 : decode (mB 228) 110 = .ok (.ireturn, 1) ∧ mR 228 = (some .int) := by decide +kernel
theorem k228_111 : decode (mB 228) 111 = .ok (.aload_n 0, 1) := by decide +kernel
theorem k228_112 : decode (mB 228) 112 = .ok (.getfield 145, 3) ∧ tF (mO 228) 145 = some (11, 17, 0, 0) := by decide +kernel
theorem k228_115 : decode (mB 228) 115 = .ok (.ireturn, 1) ∧ mR 228 = (some .int) := by decide +kernel
theorem k228_116 : decode (mB 228) 116 = .ok (.aload_n 0, 1) := by decide +kernel
theorem k228_117 : decode (mB 228) 117 = .ok (.getfield 85, 3) ∧ tF (mO 228) 85 = some (11, 6, 0, 0) := by decide +kernel
theorem k228_120 : decode (mB 228) 120 = .ok (.ireturn, 1) ∧ mR 228 = (some .int) := by decide +kernel
theorem k228_121 : decode (mB 228) 121 = .ok (.ldc 67, 2) ∧ tK (mO 228) 67 = some (-1000001) := by decide +kernel
theorem k228_123 : decode (mB 228) 123 = .ok (.ireturn, 1) ∧ mR 228 = (some .int) := by decide +kernel
-- 229: ChairPastModel.status:()I, locals 1
theorem l229 : mL 229 = 1 := by decide +kernel
theorem k229_0 : decode (mB 229) 0 = .ok (.aload_n 0, 1) := by decide +kernel
theorem k229_1 : decode (mB 229) 1 = .ok (.getfield 54, 3) ∧ tF (mO 229) 54 = some (11, 4, 0, 0) := by decide +kernel
theorem k229_4 : decode (mB 229) 4 = .ok (.ireturn, 1) ∧ mR 229 = (some .int) := by decide +kernel
