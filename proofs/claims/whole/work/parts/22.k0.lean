-- 1: ChairPast$Barbers.number:()I, locals 1
theorem l1 : mL 1 = 1 := by decide +kernel
theorem k1_0 : decode (mB 1) 0 = .ok (.iconst 3, 1) := by decide +kernel
theorem k1_1 : decode (mB 1) 1 = .ok (.ireturn, 1) ∧ mR 1 = (some .int) := by decide +kernel
-- 2: ChairPast$Barbers.bearingOn:(LChairPast$Chair;I)I, locals 3
theorem l2 : mL 2 = 3 := by decide +kernel
theorem k2_0 : decode (mB 2) 0 = .ok (.aload_n 1, 1) := by decide +kernel
theorem k2_1 : decode (mB 2) 1 = .ok (.getfield 9, 3) ∧ tF (mO 2) 9 = some (1, 1, 0, 0) := by decide +kernel
theorem k2_4 : decode (mB 2) 4 = .ok (.invokestatic 15, 3) ∧ tM (mO 2) 15 = none ∧ tS (mO 2) 15 = some 5 := by decide +kernel
theorem k2_7 : decode (mB 2) 7 = .ok (.aload_n 1, 1) := by decide +kernel
theorem k2_8 : decode (mB 2) 8 = .ok (.getfield 21, 3) ∧ tF (mO 2) 21 = some (1, 2, 0, 0) := by decide +kernel
theorem k2_11 : decode (mB 2) 11 = .ok (.iload_n 2, 1) := by decide +kernel
theorem k2_12 : decode (mB 2) 12 = .ok (.invokestatic 24, 3) ∧ tM (mO 2) 24 = none ∧ tS (mO 2) 24 = some 58 := by decide +kernel
theorem k2_15 : decode (mB 2) 15 = .ok (.ireturn, 1) ∧ mR 2 = (some .int) := by decide +kernel
-- 3: ChairPast$Barbers.wear:(LChairPast$Chair;)V, locals 2
theorem l3 : mL 3 = 2 := by decide +kernel
theorem k3_0 : decode (mB 3) 0 = .ok (.aload_n 0, 1) := by decide +kernel
theorem k3_1 : decode (mB 3) 1 = .ok (.aload_n 1, 1) := by decide +kernel
theorem k3_2 : decode (mB 3) 2 = .ok (.invokespecial 28, 3) ∧ tB (mO 3) 28 = false ∧ tI (mO 3) 28 = none ∧ tJ (mO 3) 28 = none ∧ tP (mO 3) 28 = some 55 := by decide +kernel
theorem k3_5 : decode (mB 3) 5 = .ok (.aload_n 1, 1) := by decide +kernel
theorem k3_6 : decode (mB 3) 6 = .ok (.aload_n 1, 1) := by decide +kernel
theorem k3_7 : decode (mB 3) 7 = .ok (.getfield 9, 3) ∧ tF (mO 3) 9 = some (1, 1, 0, 0) := by decide +kernel
theorem k3_10 : decode (mB 3) 10 = .ok (.invokestatic 15, 3) ∧ tM (mO 3) 15 = none ∧ tS (mO 3) 15 = some 5 := by decide +kernel
theorem k3_13 : decode (mB 3) 13 = .ok (.putfield 9, 3) ∧ tF (mO 3) 9 = some (1, 1, 0, 0) := by decide +kernel
theorem k3_16 : decode (mB 3) 16 = .ok (.return_, 1) ∧ mR 3 = none := by decide +kernel
-- 4: ChairPast$Barbers.markOf:(LChairPast$Chair;LChairPast$Line;)I, locals 3
theorem l4 : mL 4 = 3 := by decide +kernel
theorem k4_0 : decode (mB 4) 0 = .ok (.aload_n 2, 1) := by decide +kernel
theorem k4_1 : decode (mB 4) 1 = .ok (.bipush 22, 2) := by decide +kernel
theorem k4_3 : decode (mB 4) 3 = .ok (.invokevirtual 32, 3) ∧ tVn (mO 4) 32 = some 1 ∧ tV (mO 4) 32 4 = some 47 := by decide +kernel
theorem k4_6 : decode (mB 4) 6 = .ok (.pop, 1) := by decide +kernel
theorem k4_7 : decode (mB 4) 7 = .ok (.aload_n 0, 1) := by decide +kernel
theorem k4_8 : decode (mB 4) 8 = .ok (.aload_n 1, 1) := by decide +kernel
theorem k4_9 : decode (mB 4) 9 = .ok (.aload_n 2, 1) := by decide +kernel
theorem k4_10 : decode (mB 4) 10 = .ok (.invokespecial 38, 3) ∧ tB (mO 4) 38 = false ∧ tI (mO 4) 38 = none ∧ tJ (mO 4) 38 = none ∧ tP (mO 4) 38 = some 57 := by decide +kernel
theorem k4_13 : decode (mB 4) 13 = .ok (.sipush 1000, 3) := by decide +kernel
theorem k4_16 : decode (mB 4) 16 = .ok (.isub, 1) := by decide +kernel
theorem k4_17 : decode (mB 4) 17 = .ok (.ireturn, 1) ∧ mR 4 = (some .int) := by decide +kernel
-- 5: ChairPast$Barbers.mannerAfter:(I)I, locals 1
theorem l5 : mL 5 = 1 := by decide +kernel
theorem k5_0 : decode (mB 5) 0 = .ok (.iload_n 0, 1) := by decide +kernel
theorem k5_1 : decode (mB 5) 1 = .ok (.iconst 1, 1) := by decide +kernel
theorem k5_2 : decode (mB 5) 2 = .ok (.iadd, 1) := by decide +kernel
theorem k5_3 : decode (mB 5) 3 = .ok (.bipush 10, 2) := by decide +kernel
theorem k5_5 : decode (mB 5) 5 = .ok (.irem, 1) := by decide +kernel
theorem k5_6 : decode (mB 5) 6 = .ok (.ireturn, 1) ∧ mR 5 = (some .int) := by decide +kernel
-- 7: ChairPast$Chair.bearingOf:(I)I, locals 2
theorem l7 : mL 7 = 2 := by decide +kernel
theorem k7_0 : decode (mB 7) 0 = .ok (.aload_n 0, 1) := by decide +kernel
theorem k7_1 : decode (mB 7) 1 = .ok (.getfield 16, 3) ∧ tF (mO 7) 16 = some (1, 0, 1, 0) := by decide +kernel
theorem k7_4 : decode (mB 7) 4 = .ok (.aload_n 0, 1) := by decide +kernel
theorem k7_5 : decode (mB 7) 5 = .ok (.iload_n 1, 1) := by decide +kernel
theorem k7_6_5 : decode (mB 7) 6 = .ok (.invokevirtual 20, 3) ∧ tVn (mO 7) 20 = some 2 ∧ tV (mO 7) 20 5 = some 54 := by decide +kernel
theorem k7_6_7 : decode (mB 7) 6 = .ok (.invokevirtual 20, 3) ∧ tVn (mO 7) 20 = some 2 ∧ tV (mO 7) 20 7 = some 76 := by decide +kernel
theorem k7_6_0 : decode (mB 7) 6 = .ok (.invokevirtual 20, 3) ∧ tVn (mO 7) 20 = some 2 ∧ tV (mO 7) 20 0 = some 2 := by decide +kernel
theorem k7_6_9 : decode (mB 7) 6 = .ok (.invokevirtual 20, 3) ∧ tVn (mO 7) 20 = some 2 ∧ tV (mO 7) 20 9 = some 105 := by decide +kernel
theorem k7_6_2 : decode (mB 7) 6 = .ok (.invokevirtual 20, 3) ∧ tVn (mO 7) 20 = some 2 ∧ tV (mO 7) 20 2 = some 15 := by decide +kernel
theorem k7_9 : decode (mB 7) 9 = .ok (.ireturn, 1) ∧ mR 7 = (some .int) := by decide +kernel
-- 8: ChairPast$Chair.bear:(II)I, locals 4
theorem l8 : mL 8 = 4 := by decide +kernel
theorem k8_0 : decode (mB 8) 0 = .ok (.aload_n 0, 1) := by decide +kernel
theorem k8_1 : decode (mB 8) 1 = .ok (.getfield 16, 3) ∧ tF (mO 8) 16 = some (1, 0, 1, 0) := by decide +kernel
theorem k8_4 : decode (mB 8) 4 = .ok (.aload_n 0, 1) := by decide +kernel
theorem k8_5 : decode (mB 8) 5 = .ok (.iload_n 1, 1) := by decide +kernel
theorem k8_6_5 : decode (mB 8) 6 = .ok (.invokevirtual 20, 3) ∧ tVn (mO 8) 20 = some 2 ∧ tV (mO 8) 20 5 = some 54 := by decide +kernel
theorem k8_6_7 : decode (mB 8) 6 = .ok (.invokevirtual 20, 3) ∧ tVn (mO 8) 20 = some 2 ∧ tV (mO 8) 20 7 = some 76 := by decide +kernel
theorem k8_6_0 : decode (mB 8) 6 = .ok (.invokevirtual 20, 3) ∧ tVn (mO 8) 20 = some 2 ∧ tV (mO 8) 20 0 = some 2 := by decide +kernel
theorem k8_6_9 : decode (mB 8) 6 = .ok (.invokevirtual 20, 3) ∧ tVn (mO 8) 20 = some 2 ∧ tV (mO 8) 20 9 = some 105 := by decide +kernel
theorem k8_6_2 : decode (mB 8) 6 = .ok (.invokevirtual 20, 3) ∧ tVn (mO 8) 20 = some 2 ∧ tV (mO 8) 20 2 = some 15 := by decide +kernel
theorem k8_9 : decode (mB 8) 9 = .ok (.istore_n 3, 1) := by decide +kernel
theorem k8_10 : decode (mB 8) 10 = .ok (.aload_n 0, 1) := by decide +kernel
theorem k8_11 : decode (mB 8) 11 = .ok (.aload_n 0, 1) := by decide +kernel
theorem k8_12 : decode (mB 8) 12 = .ok (.getfield 26, 3) ∧ tF (mO 8) 26 = some (1, 4, 0, 0) := by decide +kernel
theorem k8_15 : decode (mB 8) 15 = .ok (.iconst 1, 1) := by decide +kernel
theorem k8_16 : decode (mB 8) 16 = .ok (.iadd, 1) := by decide +kernel
theorem k8_17 : decode (mB 8) 17 = .ok (.sipush 999, 3) := by decide +kernel
theorem k8_20 : decode (mB 8) 20 = .ok (.invokestatic 29, 3) ∧ tM (mO 8) 29 = some 4 := by decide +kernel
theorem k8_23 : decode (mB 8) 23 = .ok (.putfield 26, 3) ∧ tF (mO 8) 26 = some (1, 4, 0, 0) := by decide +kernel
theorem k8_26 : decode (mB 8) 26 = .ok (.aload_n 0, 1) := by decide +kernel
theorem k8_27 : decode (mB 8) 27 = .ok (.getfield 16, 3) ∧ tF (mO 8) 16 = some (1, 0, 1, 0) := by decide +kernel
theorem k8_30 : decode (mB 8) 30 = .ok (.aload_n 0, 1) := by decide +kernel
theorem k8_31_5 : decode (mB 8) 31 = .ok (.invokevirtual 35, 3) ∧ tVn (mO 8) 35 = some 1 ∧ tV (mO 8) 35 5 = some 55 := by decide +kernel
theorem k8_31_7 : decode (mB 8) 31 = .ok (.invokevirtual 35, 3) ∧ tVn (mO 8) 35 = some 1 ∧ tV (mO 8) 35 7 = some 55 := by decide +kernel
theorem k8_31_0 : decode (mB 8) 31 = .ok (.invokevirtual 35, 3) ∧ tVn (mO 8) 35 = some 1 ∧ tV (mO 8) 35 0 = some 3 := by decide +kernel
theorem k8_31_9 : decode (mB 8) 31 = .ok (.invokevirtual 35, 3) ∧ tVn (mO 8) 35 = some 1 ∧ tV (mO 8) 35 9 = some 106 := by decide +kernel
theorem k8_31_2 : decode (mB 8) 31 = .ok (.invokevirtual 35, 3) ∧ tVn (mO 8) 35 = some 1 ∧ tV (mO 8) 35 2 = some 106 := by decide +kernel
theorem k8_34 : decode (mB 8) 34 = .ok (.aload_n 0, 1) := by decide +kernel
theorem k8_35 : decode (mB 8) 35 = .ok (.getfield 39, 3) ∧ tF (mO 8) 39 = some (1, 2, 0, 0) := by decide +kernel
theorem k8_38 : decode (mB 8) 38 = .ok (.iload_n 2, 1) := by decide +kernel
theorem k8_39 : decode (mB 8) 39 = .ok (.if_icmp .ge 14, 3) := by decide +kernel
theorem k8_42 : decode (mB 8) 42 = .ok (.aload_n 0, 1) := by decide +kernel
theorem k8_43 : decode (mB 8) 43 = .ok (.iload_n 1, 1) := by decide +kernel
theorem k8_44 : decode (mB 8) 44 = .ok (.putfield 42, 3) ∧ tF (mO 8) 42 = some (1, 1, 0, 0) := by decide +kernel
theorem k8_47 : decode (mB 8) 47 = .ok (.aload_n 0, 1) := by decide +kernel
theorem k8_48 : decode (mB 8) 48 = .ok (.bipush 16, 2) := by decide +kernel
theorem k8_50 : decode (mB 8) 50 = .ok (.putfield 39, 3) ∧ tF (mO 8) 39 = some (1, 2, 0, 0) := by decide +kernel
theorem k8_53 : decode (mB 8) 53 = .ok (.iload_n 3, 1) := by decide +kernel
theorem k8_54 : decode (mB 8) 54 = .ok (.ireturn, 1) ∧ mR 8 = (some .int) := by decide +kernel
-- 9: ChairPast$Chair.isLike:(II)Z, locals 3
theorem l9 : mL 9 = 3 := by decide +kernel
theorem k9_0 : decode (mB 9) 0 = .ok (.aload_n 0, 1) := by decide +kernel
theorem k9_1 : decode (mB 9) 1 = .ok (.getfield 42, 3) ∧ tF (mO 9) 42 = some (1, 1, 0, 0) := by decide +kernel
theorem k9_4 : decode (mB 9) 4 = .ok (.iload_n 1, 1) := by decide +kernel
theorem k9_5 : decode (mB 9) 5 = .ok (.if_icmp .ne 15, 3) := by decide +kernel
theorem k9_8 : decode (mB 9) 8 = .ok (.aload_n 0, 1) := by decide +kernel
theorem k9_9 : decode (mB 9) 9 = .ok (.getfield 39, 3) ∧ tF (mO 9) 39 = some (1, 2, 0, 0) := by decide +kernel
theorem k9_12 : decode (mB 9) 12 = .ok (.iload_n 2, 1) := by decide +kernel
theorem k9_13 : decode (mB 9) 13 = .ok (.if_icmp .ne 7, 3) := by decide +kernel
theorem k9_16 : decode (mB 9) 16 = .ok (.iconst 1, 1) := by decide +kernel
theorem k9_17 : decode (mB 9) 17 = .ok (.goto 4, 3) := by decide +kernel
theorem k9_20 : decode (mB 9) 20 = .ok (.iconst 0, 1) := by decide +kernel
theorem k9_21 : decode (mB 9) 21 = .ok (.ireturn, 1) ∧ mR 9 = (some .boolean) := by decide +kernel
-- 10: ChairPast$Chair.takeAfter:(LChairPast$Chair;)V, locals 2
theorem l10 : mL 10 = 2 := by decide +kernel
theorem k10_0 : decode (mB 10) 0 = .ok (.aload_n 0, 1) := by decide +kernel
theorem k10_1 : decode (mB 10) 1 = .ok (.aload_n 1, 1) := by decide +kernel
theorem k10_2 : decode (mB 10) 2 = .ok (.getfield 16, 3) ∧ tF (mO 10) 16 = some (1, 0, 1, 0) := by decide +kernel
theorem k10_5 : decode (mB 10) 5 = .ok (.putfield 16, 3) ∧ tF (mO 10) 16 = some (1, 0, 1, 0) := by decide +kernel
theorem k10_8 : decode (mB 10) 8 = .ok (.aload_n 0, 1) := by decide +kernel
theorem k10_9 : decode (mB 10) 9 = .ok (.aload_n 1, 1) := by decide +kernel
theorem k10_10 : decode (mB 10) 10 = .ok (.getfield 42, 3) ∧ tF (mO 10) 42 = some (1, 1, 0, 0) := by decide +kernel
theorem k10_13 : decode (mB 10) 13 = .ok (.putfield 42, 3) ∧ tF (mO 10) 42 = some (1, 1, 0, 0) := by decide +kernel
theorem k10_16 : decode (mB 10) 16 = .ok (.aload_n 0, 1) := by decide +kernel
theorem k10_17 : decode (mB 10) 17 = .ok (.aload_n 1, 1) := by decide +kernel
theorem k10_18 : decode (mB 10) 18 = .ok (.getfield 39, 3) ∧ tF (mO 10) 39 = some (1, 2, 0, 0) := by decide +kernel
theorem k10_21 : decode (mB 10) 21 = .ok (.putfield 39, 3) ∧ tF (mO 10) 39 = some (1, 2, 0, 0) := by decide +kernel
theorem k10_24 : decode (mB 10) 24 = .ok (.aload_n 0, 1) := by decide +kernel
theorem k10_25 : decode (mB 10) 25 = .ok (.aload_n 1, 1) := by decide +kernel
theorem k10_26 : decode (mB 10) 26 = .ok (.getfield 45, 3) ∧ tF (mO 10) 45 = some (1, 3, 0, 0) := by decide +kernel
theorem k10_29 : decode (mB 10) 29 = .ok (.putfield 45, 3) ∧ tF (mO 10) 45 = some (1, 3, 0, 0) := by decide +kernel
theorem k10_32 : decode (mB 10) 32 = .ok (.aload_n 0, 1) := by decide +kernel
theorem k10_33 : decode (mB 10) 33 = .ok (.aload_n 1, 1) := by decide +kernel
theorem k10_34 : decode (mB 10) 34 = .ok (.getfield 26, 3) ∧ tF (mO 10) 26 = some (1, 4, 0, 0) := by decide +kernel
theorem k10_37 : decode (mB 10) 37 = .ok (.putfield 26, 3) ∧ tF (mO 10) 26 = some (1, 4, 0, 0) := by decide +kernel
theorem k10_40 : decode (mB 10) 40 = .ok (.aload_n 0, 1) := by decide +kernel
theorem k10_41 : decode (mB 10) 41 = .ok (.aload_n 1, 1) := by decide +kernel
theorem k10_42 : decode (mB 10) 42 = .ok (.getfield 10, 3) ∧ tF (mO 10) 10 = some (1, 5, 0, 0) := by decide +kernel
theorem k10_45 : decode (mB 10) 45 = .ok (.putfield 10, 3) ∧ tF (mO 10) 10 = some (1, 5, 0, 0) := by decide +kernel
theorem k10_48 : decode (mB 10) 48 = .ok (.return_, 1) ∧ mR 10 = none := by decide +kernel
-- 11: ChairPast$Chair.writeTo:(LChairPast$Line;)V, locals 2
theorem l11 : mL 11 = 2 := by decide +kernel
theorem k11_0 : decode (mB 11) 0 = .ok (.aload_n 1, 1) := by decide +kernel
theorem k11_1 : decode (mB 11) 1 = .ok (.aload_n 0, 1) := by decide +kernel
theorem k11_2 : decode (mB 11) 2 = .ok (.getfield 16, 3) ∧ tF (mO 11) 16 = some (1, 0, 1, 0) := by decide +kernel
theorem k11_5_5 : decode (mB 11) 5 = .ok (.invokevirtual 48, 3) ∧ tVn (mO 11) 48 = some 0 ∧ tV (mO 11) 48 5 = some 53 := by decide +kernel
theorem k11_5_7 : decode (mB 11) 5 = .ok (.invokevirtual 48, 3) ∧ tVn (mO 11) 48 = some 0 ∧ tV (mO 11) 48 7 = some 75 := by decide +kernel
theorem k11_5_0 : decode (mB 11) 5 = .ok (.invokevirtual 48, 3) ∧ tVn (mO 11) 48 = some 0 ∧ tV (mO 11) 48 0 = some 1 := by decide +kernel
theorem k11_5_9 : decode (mB 11) 5 = .ok (.invokevirtual 48, 3) ∧ tVn (mO 11) 48 = some 0 ∧ tV (mO 11) 48 9 = some 104 := by decide +kernel
theorem k11_5_2 : decode (mB 11) 5 = .ok (.invokevirtual 48, 3) ∧ tVn (mO 11) 48 = some 0 ∧ tV (mO 11) 48 2 = some 14 := by decide +kernel
theorem k11_8 : decode (mB 11) 8 = .ok (.invokevirtual 52, 3) ∧ tVn (mO 11) 52 = some 1 ∧ tV (mO 11) 52 4 = some 47 := by decide +kernel
theorem k11_11 : decode (mB 11) 11 = .ok (.pop, 1) := by decide +kernel
theorem k11_12 : decode (mB 11) 12 = .ok (.aload_n 1, 1) := by decide +kernel
theorem k11_13 : decode (mB 11) 13 = .ok (.aload_n 0, 1) := by decide +kernel
theorem k11_14 : decode (mB 11) 14 = .ok (.getfield 42, 3) ∧ tF (mO 11) 42 = some (1, 1, 0, 0) := by decide +kernel
theorem k11_17 : decode (mB 11) 17 = .ok (.invokevirtual 52, 3) ∧ tVn (mO 11) 52 = some 1 ∧ tV (mO 11) 52 4 = some 47 := by decide +kernel
theorem k11_20 : decode (mB 11) 20 = .ok (.pop, 1) := by decide +kernel
theorem k11_21 : decode (mB 11) 21 = .ok (.aload_n 1, 1) := by decide +kernel
theorem k11_22 : decode (mB 11) 22 = .ok (.aload_n 0, 1) := by decide +kernel
theorem k11_23 : decode (mB 11) 23 = .ok (.getfield 39, 3) ∧ tF (mO 11) 39 = some (1, 2, 0, 0) := by decide +kernel
theorem k11_26 : decode (mB 11) 26 = .ok (.invokevirtual 52, 3) ∧ tVn (mO 11) 52 = some 1 ∧ tV (mO 11) 52 4 = some 47 := by decide +kernel
theorem k11_29 : decode (mB 11) 29 = .ok (.pop, 1) := by decide +kernel
theorem k11_30 : decode (mB 11) 30 = .ok (.aload_n 1, 1) := by decide +kernel
theorem k11_31 : decode (mB 11) 31 = .ok (.aload_n 0, 1) := by decide +kernel
theorem k11_32 : decode (mB 11) 32 = .ok (.getfield 45, 3) ∧ tF (mO 11) 45 = some (1, 3, 0, 0) := by decide +kernel
theorem k11_35 : decode (mB 11) 35 = .ok (.invokevirtual 52, 3) ∧ tVn (mO 11) 52 = some 1 ∧ tV (mO 11) 52 4 = some 47 := by decide +kernel
theorem k11_38 : decode (mB 11) 38 = .ok (.pop, 1) := by decide +kernel
theorem k11_39 : decode (mB 11) 39 = .ok (.aload_n 1, 1) := by decide +kernel
theorem k11_40 : decode (mB 11) 40 = .ok (.aload_n 0, 1) := by decide +kernel
theorem k11_41 : decode (mB 11) 41 = .ok (.getfield 26, 3) ∧ tF (mO 11) 26 = some (1, 4, 0, 0) := by decide +kernel
theorem k11_44 : decode (mB 11) 44 = .ok (.invokevirtual 52, 3) ∧ tVn (mO 11) 52 = some 1 ∧ tV (mO 11) 52 4 = some 47 := by decide +kernel
theorem k11_47 : decode (mB 11) 47 = .ok (.pop, 1) := by decide +kernel
theorem k11_48 : decode (mB 11) 48 = .ok (.aload_n 1, 1) := by decide +kernel
theorem k11_49 : decode (mB 11) 49 = .ok (.aload_n 0, 1) := by decide +kernel
theorem k11_50 : decode (mB 11) 50 = .ok (.getfield 10, 3) ∧ tF (mO 11) 10 = some (1, 5, 0, 0) := by decide +kernel
theorem k11_53 : decode (mB 11) 53 = .ok (.invokevirtual 52, 3) ∧ tVn (mO 11) 52 = some 1 ∧ tV (mO 11) 52 4 = some 47 := by decide +kernel
theorem k11_56 : decode (mB 11) 56 = .ok (.pop, 1) := by decide +kernel
theorem k11_57 : decode (mB 11) 57 = .ok (.return_, 1) ∧ mR 11 = none := by decide +kernel
-- 12: ChairPast$Chair.readFrom:(LChairPast$Line;[LChairPast$Kind;)V, locals 4
theorem l12 : mL 12 = 4 := by decide +kernel
theorem k12_0 : decode (mB 12) 0 = .ok (.aload_n 1, 1) := by decide +kernel
theorem k12_1 : decode (mB 12) 1 = .ok (.invokevirtual 58, 3) ∧ tVn (mO 12) 58 = some 0 ∧ tV (mO 12) 58 4 = some 51 := by decide +kernel
theorem k12_4 : decode (mB 12) 4 = .ok (.istore_n 3, 1) := by decide +kernel
theorem k12_5 : decode (mB 12) 5 = .ok (.iload_n 3, 1) := by decide +kernel
theorem k12_6 : decode (mB 12) 6 = .ok (.iconst 1, 1) := by decide +kernel
theorem k12_7 : decode (mB 12) 7 = .ok (.if_icmp .lt 18, 3) := by decide +kernel
theorem k12_10 : decode (mB 12) 10 = .ok (.iload_n 3, 1) := by decide +kernel
theorem k12_11 : decode (mB 12) 11 = .ok (.aload_n 2, 1) := by decide +kernel
theorem k12_12 : decode (mB 12) 12 = .ok (.arraylength, 1) := by decide +kernel
theorem k12_13 : decode (mB 12) 13 = .ok (.if_icmp .gt 12, 3) := by decide +kernel
theorem k12_16 : decode (mB 12) 16 = .ok (.aload_n 0, 1) := by decide +kernel
theorem k12_17 : decode (mB 12) 17 = .ok (.aload_n 2, 1) := by decide +kernel
theorem k12_18 : decode (mB 12) 18 = .ok (.iload_n 3, 1) := by decide +kernel
theorem k12_19 : decode (mB 12) 19 = .ok (.iconst 1, 1) := by decide +kernel
theorem k12_20 : decode (mB 12) 20 = .ok (.isub, 1) := by decide +kernel
theorem k12_21 : decode (mB 12) 21 = .ok (.aaload, 1) := by decide +kernel
theorem k12_22 : decode (mB 12) 22 = .ok (.putfield 16, 3) ∧ tF (mO 12) 16 = some (1, 0, 1, 0) := by decide +kernel
theorem k12_25 : decode (mB 12) 25 = .ok (.aload_n 0, 1) := by decide +kernel
theorem k12_26 : decode (mB 12) 26 = .ok (.aload_n 1, 1) := by decide +kernel
theorem k12_27 : decode (mB 12) 27 = .ok (.invokevirtual 58, 3) ∧ tVn (mO 12) 58 = some 0 ∧ tV (mO 12) 58 4 = some 51 := by decide +kernel
theorem k12_30 : decode (mB 12) 30 = .ok (.putfield 42, 3) ∧ tF (mO 12) 42 = some (1, 1, 0, 0) := by decide +kernel
theorem k12_33 : decode (mB 12) 33 = .ok (.aload_n 0, 1) := by decide +kernel
theorem k12_34 : decode (mB 12) 34 = .ok (.aload_n 1, 1) := by decide +kernel
theorem k12_35 : decode (mB 12) 35 = .ok (.invokevirtual 58, 3) ∧ tVn (mO 12) 58 = some 0 ∧ tV (mO 12) 58 4 = some 51 := by decide +kernel
theorem k12_38 : decode (mB 12) 38 = .ok (.putfield 39, 3) ∧ tF (mO 12) 39 = some (1, 2, 0, 0) := by decide +kernel
theorem k12_41 : decode (mB 12) 41 = .ok (.aload_n 0, 1) := by decide +kernel
theorem k12_42 : decode (mB 12) 42 = .ok (.aload_n 1, 1) := by decide +kernel
theorem k12_43 : decode (mB 12) 43 = .ok (.invokevirtual 58, 3) ∧ tVn (mO 12) 58 = some 0 ∧ tV (mO 12) 58 4 = some 51 := by decide +kernel
theorem k12_46 : decode (mB 12) 46 = .ok (.putfield 45, 3) ∧ tF (mO 12) 45 = some (1, 3, 0, 0) := by decide +kernel
theorem k12_49 : decode (mB 12) 49 = .ok (.aload_n 0, 1) := by decide +kernel
theorem k12_50 : decode (mB 12) 50 = .ok (.aload_n 1, 1) := by decide +kernel
theorem k12_51 : decode (mB 12) 51 = .ok (.invokevirtual 58, 3) ∧ tVn (mO 12) 58 = some 0 ∧ tV (mO 12) 58 4 = some 51 := by decide +kernel
theorem k12_54 : decode (mB 12) 54 = .ok (.putfield 26, 3) ∧ tF (mO 12) 26 = some (1, 4, 0, 0) := by decide +kernel
theorem k12_57 : decode (mB 12) 57 = .ok (.aload_n 0, 1) := by decide +kernel
theorem k12_58 : decode (mB 12) 58 = .ok (.aload_n 1, 1) := by decide +kernel
theorem k12_59 : decode (mB 12) 59 = .ok (.invokevirtual 58, 3) ∧ tVn (mO 12) 58 = some 0 ∧ tV (mO 12) 58 4 = some 51 := by decide +kernel
theorem k12_62 : decode (mB 12) 62 = .ok (.putfield 10, 3) ∧ tF (mO 12) 10 = some (1, 5, 0, 0) := by decide +kernel
theorem k12_65 : decode (mB 12) 65 = .ok (.return_, 1) ∧ mR 12 = none := by decide +kernel
-- 14: ChairPast$Dentists.number:()I, locals 1
theorem l14 : mL 14 = 1 := by decide +kernel
theorem k14_0 : decode (mB 14) 0 = .ok (.iconst 5, 1) := by decide +kernel
theorem k14_1 : decode (mB 14) 1 = .ok (.ireturn, 1) ∧ mR 14 = (some .int) := by decide +kernel
-- 15: ChairPast$Dentists.bearingOn:(LChairPast$Chair;I)I, locals 3
theorem l15 : mL 15 = 3 := by decide +kernel
theorem k15_0 : decode (mB 15) 0 = .ok (.aload_n 0, 1) := by decide +kernel
theorem k15_1 : decode (mB 15) 1 = .ok (.aload_n 1, 1) := by decide +kernel
theorem k15_2 : decode (mB 15) 2 = .ok (.iload_n 2, 1) := by decide +kernel
theorem k15_3 : decode (mB 15) 3 = .ok (.invokespecial 7, 3) ∧ tB (mO 15) 7 = false ∧ tI (mO 15) 7 = none ∧ tJ (mO 15) 7 = none ∧ tP (mO 15) 7 = some 105 := by decide +kernel
theorem k15_6 : decode (mB 15) 6 = .ok (.iconst 5, 1) := by decide +kernel
theorem k15_7 : decode (mB 15) 7 = .ok (.invokestatic 13, 3) ∧ tM (mO 15) 13 = some 3 := by decide +kernel
theorem k15_10 : decode (mB 15) 10 = .ok (.ireturn, 1) ∧ mR 15 = (some .int) := by decide +kernel
-- 16: ChairPast$Dentists.sizeOf:(LChairPast$Chair;LChairPast$Line;)I, locals 3
theorem l16 : mL 16 = 3 := by decide +kernel
theorem k16_0 : decode (mB 16) 0 = .ok (.aload_n 2, 1) := by decide +kernel
theorem k16_1 : decode (mB 16) 1 = .ok (.bipush 14, 2) := by decide +kernel
theorem k16_3 : decode (mB 16) 3 = .ok (.invokevirtual 19, 3) ∧ tVn (mO 16) 19 = some 1 ∧ tV (mO 16) 19 4 = some 47 := by decide +kernel
theorem k16_6 : decode (mB 16) 6 = .ok (.pop, 1) := by decide +kernel
theorem k16_7 : decode (mB 16) 7 = .ok (.iconst 2, 1) := by decide +kernel
theorem k16_8 : decode (mB 16) 8 = .ok (.aload_n 0, 1) := by decide +kernel
theorem k16_9 : decode (mB 16) 9 = .ok (.aload_n 1, 1) := by decide +kernel
theorem k16_10 : decode (mB 16) 10 = .ok (.aload_n 2, 1) := by decide +kernel
theorem k16_11 : decode (mB 16) 11 = .ok (.invokespecial 25, 3) ∧ tB (mO 16) 25 = false ∧ tI (mO 16) 25 = none ∧ tJ (mO 16) 25 = none ∧ tP (mO 16) 25 = some 107 := by decide +kernel
theorem k16_14 : decode (mB 16) 14 = .ok (.imul, 1) := by decide +kernel
theorem k16_15 : decode (mB 16) 15 = .ok (.ireturn, 1) ∧ mR 16 = (some .int) := by decide +kernel
-- 18: ChairPast$Foresight.startTrial:()V, locals 1
theorem l18 : mL 18 = 1 := by decide +kernel
theorem k18_0 : decode (mB 18) 0 = .ok (.aload_n 0, 1) := by decide +kernel
theorem k18_1 : decode (mB 18) 1 = .ok (.getfield 27, 3) ∧ tF (mO 18) 27 = some (3, 0, 1, 1) := by decide +kernel
theorem k18_4 : decode (mB 18) 4 = .ok (.aload_n 0, 1) := by decide +kernel
theorem k18_5 : decode (mB 18) 5 = .ok (.getfield 14, 3) ∧ tF (mO 18) 14 = some (3, 4, 1, 1) := by decide +kernel
theorem k18_8 : decode (mB 18) 8 = .ok (.invokevirtual 52, 3) ∧ tVn (mO 18) 52 = some 1 ∧ tV (mO 18) 52 8 = some 101 := by decide +kernel
theorem k18_11 : decode (mB 18) 11 = .ok (.aload_n 0, 1) := by decide +kernel
theorem k18_12 : decode (mB 18) 12 = .ok (.getfield 40, 3) ∧ tF (mO 18) 40 = some (3, 1, 1, 1) := by decide +kernel
theorem k18_15 : decode (mB 18) 15 = .ok (.aload_n 0, 1) := by decide +kernel
theorem k18_16 : decode (mB 18) 16 = .ok (.getfield 14, 3) ∧ tF (mO 18) 14 = some (3, 4, 1, 1) := by decide +kernel
theorem k18_19 : decode (mB 18) 19 = .ok (.invokevirtual 56, 3) ∧ tVn (mO 18) 56 = some 1 ∧ tV (mO 18) 56 8 = some 102 := by decide +kernel
theorem k18_22 : decode (mB 18) 22 = .ok (.return_, 1) ∧ mR 18 = none := by decide +kernel
-- 19: ChairPast$Foresight.bearOnStool:(I)I, locals 2
theorem l19 : mL 19 = 2 := by decide +kernel
theorem k19_0 : decode (mB 19) 0 = .ok (.aload_n 0, 1) := by decide +kernel
theorem k19_1 : decode (mB 19) 1 = .ok (.getfield 48, 3) ∧ tF (mO 19) 48 = some (3, 3, 1, 1) := by decide +kernel
theorem k19_4 : decode (mB 19) 4 = .ok (.aload_n 0, 1) := by decide +kernel
theorem k19_5 : decode (mB 19) 5 = .ok (.getfield 27, 3) ∧ tF (mO 19) 27 = some (3, 0, 1, 1) := by decide +kernel
theorem k19_8 : decode (mB 19) 8 = .ok (.getfield 59, 3) ∧ tF (mO 19) 59 = some (8, 2, 1, 1) := by decide +kernel
theorem k19_11 : decode (mB 19) 11 = .ok (.iload_n 1, 1) := by decide +kernel
theorem k19_12 : decode (mB 19) 12 = .ok (.iaload, 1) := by decide +kernel
theorem k19_13 : decode (mB 19) 13 = .ok (.aload_n 0, 1) := by decide +kernel
theorem k19_14 : decode (mB 19) 14 = .ok (.getfield 27, 3) ∧ tF (mO 19) 27 = some (3, 0, 1, 1) := by decide +kernel
theorem k19_17 : decode (mB 19) 17 = .ok (.getfield 62, 3) ∧ tF (mO 19) 62 = some (8, 3, 1, 1) := by decide +kernel
theorem k19_20 : decode (mB 19) 20 = .ok (.iload_n 1, 1) := by decide +kernel
theorem k19_21 : decode (mB 19) 21 = .ok (.iaload, 1) := by decide +kernel
theorem k19_22 : decode (mB 19) 22 = .ok (.invokevirtual 65, 3) ∧ tVn (mO 19) 65 = some 2 ∧ tV (mO 19) 65 1 = some 8 := by decide +kernel
theorem k19_25 : decode (mB 19) 25 = .ok (.ireturn, 1) ∧ mR 19 = (some .int) := by decide +kernel
-- 20: ChairPast$Foresight.wouldBe:(III)I, locals 5
theorem l20 : mL 20 = 5 := by decide +kernel
theorem k20_0 : decode (mB 20) 0 = .ok (.aload_n 0, 1) := by decide +kernel
theorem k20_1 : decode (mB 20) 1 = .ok (.getfield 48, 3) ∧ tF (mO 20) 48 = some (3, 3, 1, 1) := by decide +kernel
theorem k20_4 : decode (mB 20) 4 = .ok (.aload_n 0, 1) := by decide +kernel
theorem k20_5 : decode (mB 20) 5 = .ok (.getfield 27, 3) ∧ tF (mO 20) 27 = some (3, 0, 1, 1) := by decide +kernel
theorem k20_8 : decode (mB 20) 8 = .ok (.getfield 69, 3) ∧ tF (mO 20) 69 = some (8, 1, 1, 1) := by decide +kernel
theorem k20_11 : decode (mB 20) 11 = .ok (.iload_n 2, 1) := by decide +kernel
theorem k20_12 : decode (mB 20) 12 = .ok (.aaload, 1) := by decide +kernel
theorem k20_13 : decode (mB 20) 13 = .ok (.invokevirtual 73, 3) ∧ tVn (mO 20) 73 = some 1 ∧ tV (mO 20) 73 1 = some 10 := by decide +kernel
theorem k20_16 : decode (mB 20) 16 = .ok (.aload_n 0, 1) := by decide +kernel
theorem k20_17 : decode (mB 20) 17 = .ok (.iload_n 1, 1) := by decide +kernel
theorem k20_18 : decode (mB 20) 18 = .ok (.invokevirtual 77, 3) ∧ tVn (mO 20) 77 = some 1 ∧ tV (mO 20) 77 3 = some 19 := by decide +kernel
theorem k20_21 : decode (mB 20) 21 = .ok (.istore 4, 2) := by decide +kernel
theorem k20_23 : decode (mB 20) 23 = .ok (.iload_n 3, 1) := by decide +kernel
theorem k20_24 : decode (mB 20) 24 = .ok (.lookupswitch 39 #[(0, 28), (1, 31)], 28) := by decide +kernel
theorem k20_52 : decode (mB 20) 52 = .ok (.iload 4, 2) := by decide +kernel
theorem k20_54 : decode (mB 20) 54 = .ok (.ireturn, 1) ∧ mR 20 = (some .int) := by decide +kernel
theorem k20_55 : decode (mB 20) 55 = .ok (.aload_n 0, 1) := by decide +kernel
theorem k20_56 : decode (mB 20) 56 = .ok (.getfield 48, 3) ∧ tF (mO 20) 48 = some (3, 3, 1, 1) := by decide +kernel
theorem k20_59 : decode (mB 20) 59 = .ok (.getfield 81, 3) ∧ tF (mO 20) 81 = some (1, 1, 0, 0) := by decide +kernel
theorem k20_62 : decode (mB 20) 62 = .ok (.ireturn, 1) ∧ mR 20 = (some .int) := by decide +kernel
theorem k20_63 : decode (mB 20) 63 = .ok (.aload_n 0, 1) := by decide +kernel
theorem k20_64 : decode (mB 20) 64 = .ok (.getfield 48, 3) ∧ tF (mO 20) 48 = some (3, 3, 1, 1) := by decide +kernel
theorem k20_67 : decode (mB 20) 67 = .ok (.getfield 85, 3) ∧ tF (mO 20) 85 = some (1, 2, 0, 0) := by decide +kernel
theorem k20_70 : decode (mB 20) 70 = .ok (.ireturn, 1) ∧ mR 20 = (some .int) := by decide +kernel
-- 21: ChairPast$Foresight.bestSeating:(I)I, locals 4
theorem l21 : mL 21 = 4 := by decide +kernel
theorem k21_0 : decode (mB 21) 0 = .ok (.aload_n 0, 1) := by decide +kernel
theorem k21_1 : decode (mB 21) 1 = .ok (.getfield 27, 3) ∧ tF (mO 21) 27 = some (3, 0, 1, 1) := by decide +kernel
theorem k21_4 : decode (mB 21) 4 = .ok (.getfield 88, 3) ∧ tF (mO 21) 88 = some (8, 7, 0, 0) := by decide +kernel
theorem k21_7 : decode (mB 21) 7 = .ok (.aload_n 0, 1) := by decide +kernel
theorem k21_8 : decode (mB 21) 8 = .ok (.getfield 27, 3) ∧ tF (mO 21) 27 = some (3, 0, 1, 1) := by decide +kernel
theorem k21_11 : decode (mB 21) 11 = .ok (.invokevirtual 91, 3) ∧ tVn (mO 21) 91 = some 0 ∧ tV (mO 21) 91 8 = some 98 := by decide +kernel
theorem k21_14 : decode (mB 21) 14 = .ok (.invokestatic 95, 3) ∧ tM (mO 21) 95 = some 1 := by decide +kernel
theorem k21_17 : decode (mB 21) 17 = .ok (.isub, 1) := by decide +kernel
theorem k21_18 : decode (mB 21) 18 = .ok (.istore_n 2, 1) := by decide +kernel
theorem k21_19 : decode (mB 21) 19 = .ok (.aload_n 0, 1) := by decide +kernel
theorem k21_20 : decode (mB 21) 20 = .ok (.getfield 27, 3) ∧ tF (mO 21) 27 = some (3, 0, 1, 1) := by decide +kernel
theorem k21_23 : decode (mB 21) 23 = .ok (.getfield 100, 3) ∧ tF (mO 21) 100 = some (8, 6, 0, 0) := by decide +kernel
theorem k21_26 : decode (mB 21) 26 = .ok (.aload_n 0, 1) := by decide +kernel
theorem k21_27 : decode (mB 21) 27 = .ok (.getfield 27, 3) ∧ tF (mO 21) 27 = some (3, 0, 1, 1) := by decide +kernel
theorem k21_30 : decode (mB 21) 30 = .ok (.invokevirtual 103, 3) ∧ tVn (mO 21) 103 = some 0 ∧ tV (mO 21) 103 8 = some 99 := by decide +kernel
theorem k21_33 : decode (mB 21) 33 = .ok (.invokestatic 95, 3) ∧ tM (mO 21) 95 = some 1 := by decide +kernel
theorem k21_36 : decode (mB 21) 36 = .ok (.isub, 1) := by decide +kernel
theorem k21_37 : decode (mB 21) 37 = .ok (.istore_n 3, 1) := by decide +kernel
theorem k21_38 : decode (mB 21) 38 = .ok (.iload_n 2, 1) := by decide +kernel
theorem k21_39 : decode (mB 21) 39 = .ok (.iload_n 3, 1) := by decide +kernel
theorem k21_40 : decode (mB 21) 40 = .ok (.if_icmp .gt 14, 3) := by decide +kernel
theorem k21_43 : decode (mB 21) 43 = .ok (.iload_n 1, 1) := by decide +kernel
theorem k21_44 : decode (mB 21) 44 = .ok (.aload_n 0, 1) := by decide +kernel
theorem k21_45 : decode (mB 21) 45 = .ok (.getfield 27, 3) ∧ tF (mO 21) 27 = some (3, 0, 1, 1) := by decide +kernel
theorem k21_48 : decode (mB 21) 48 = .ok (.getfield 88, 3) ∧ tF (mO 21) 88 = some (8, 7, 0, 0) := by decide +kernel
theorem k21_51 : decode (mB 21) 51 = .ok (.if_icmp .lt 6, 3) := by decide +kernel
theorem k21_54 : decode (mB 21) 54 = .ok (.ldc 106, 2) ∧ tK (mO 21) 106 = some (-1000000) := by decide +kernel
theorem k21_56 : decode (mB 21) 56 = .ok (.ireturn, 1) ∧ mR 21 = (some .int) := by decide +kernel
theorem k21_57 : decode (mB 21) 57 = .ok (.aload_n 0, 1) := by decide +kernel
theorem k21_58 : decode (mB 21) 58 = .ok (.invokevirtual 107, 3) ∧ tVn (mO 21) 107 = some 0 ∧ tV (mO 21) 107 3 = some 18 := by decide +kernel
theorem k21_61 : decode (mB 21) 61 = .ok (.aload_n 0, 1) := by decide +kernel
theorem k21_62 : decode (mB 21) 62 = .ok (.ldc 106, 2) ∧ tK (mO 21) 106 = some (-1000000) := by decide +kernel
theorem k21_64 : decode (mB 21) 64 = .ok (.putfield 110, 3) ∧ tF (mO 21) 110 = some (3, 7, 0, 0) := by decide +kernel
theorem k21_67 : decode (mB 21) 67 = .ok (.aload_n 0, 1) := by decide +kernel
theorem k21_68 : decode (mB 21) 68 = .ok (.iconst 0, 1) := by decide +kernel
theorem k21_69 : decode (mB 21) 69 = .ok (.invokevirtual 113, 3) ∧ tVn (mO 21) 113 = some 1 ∧ tV (mO 21) 113 3 = some 22 := by decide +kernel
theorem k21_72 : decode (mB 21) 72 = .ok (.iload_n 1, 1) := by decide +kernel
theorem k21_73 : decode (mB 21) 73 = .ok (.ifCond .ge 10, 3) := by decide +kernel
theorem k21_76 : decode (mB 21) 76 = .ok (.aload_n 0, 1) := by decide +kernel
theorem k21_77 : decode (mB 21) 77 = .ok (.getfield 110, 3) ∧ tF (mO 21) 110 = some (3, 7, 0, 0) := by decide +kernel
theorem k21_80 : decode (mB 21) 80 = .ok (.goto 9, 3) := by decide +kernel
theorem k21_83 : decode (mB 21) 83 = .ok (.aload_n 0, 1) := by decide +kernel
theorem k21_84 : decode (mB 21) 84 = .ok (.getfield 24, 3) ∧ tF (mO 21) 24 = some (3, 6, 1, 1) := by decide +kernel
theorem k21_87 : decode (mB 21) 87 = .ok (.iload_n 1, 1) := by decide +kernel
theorem k21_88 : decode (mB 21) 88 = .ok (.iaload, 1) := by decide +kernel
theorem k21_89 : decode (mB 21) 89 = .ok (.ireturn, 1) ∧ mR 21 = (some .int) := by decide +kernel
-- 22: ChairPast$Foresight.seatFrom:(I)V, locals 3
theorem l22 : mL 22 = 3 := by decide +kernel
theorem k22_0 : decode (mB 22) 0 = .ok (.iload_n 1, 1) := by decide +kernel
theorem k22_1 : decode (mB 22) 1 = .ok (.aload_n 0, 1) := by decide +kernel
theorem k22_2 : decode (mB 22) 2 = .ok (.getfield 27, 3) ∧ tF (mO 22) 27 = some (3, 0, 1, 1) := by decide +kernel
theorem k22_5 : decode (mB 22) 5 = .ok (.getfield 88, 3) ∧ tF (mO 22) 88 = some (8, 7, 0, 0) := by decide +kernel
theorem k22_8 : decode (mB 22) 8 = .ok (.if_icmp .ge 8, 3) := by decide +kernel
theorem k22_11 : decode (mB 22) 11 = .ok (.iload_n 1, 1) := by decide +kernel
theorem k22_12 : decode (mB 22) 12 = .ok (.iconst 5, 1) := by decide +kernel
theorem k22_13 : decode (mB 22) 13 = .ok (.if_icmp .lt 8, 3) := by decide +kernel
theorem k22_16 : decode (mB 22) 16 = .ok (.aload_n 0, 1) := by decide +kernel
theorem k22_17 : decode (mB 22) 17 = .ok (.invokevirtual 116, 3) ∧ tVn (mO 22) 116 = some 0 ∧ tV (mO 22) 116 3 = some 23 := by decide +kernel
theorem k22_20 : decode (mB 22) 20 = .ok (.return_, 1) ∧ mR 22 = none := by decide +kernel
theorem k22_21 : decode (mB 22) 21 = .ok (.aload_n 0, 1) := by decide +kernel
theorem k22_22 : decode (mB 22) 22 = .ok (.getfield 27, 3) ∧ tF (mO 22) 27 = some (3, 0, 1, 1) := by decide +kernel
theorem k22_25 : decode (mB 22) 25 = .ok (.iload_n 1, 1) := by decide +kernel
theorem k22_26 : decode (mB 22) 26 = .ok (.invokevirtual 119, 3) ∧ tVn (mO 22) 119 = some 1 ∧ tV (mO 22) 119 8 = some 86 := by decide +kernel
theorem k22_29 : decode (mB 22) 29 = .ok (.ifCond .eq 11, 3) := by decide +kernel
theorem k22_32 : decode (mB 22) 32 = .ok (.aload_n 0, 1) := by decide +kernel
theorem k22_33 : decode (mB 22) 33 = .ok (.iload_n 1, 1) := by decide +kernel
theorem k22_34 : decode (mB 22) 34 = .ok (.iconst 1, 1) := by decide +kernel
theorem k22_35 : decode (mB 22) 35 = .ok (.iadd, 1) := by decide +kernel
theorem k22_36 : decode (mB 22) 36 = .ok (.invokevirtual 113, 3) ∧ tVn (mO 22) 113 = some 1 ∧ tV (mO 22) 113 3 = some 22 := by decide +kernel
theorem k22_39 : decode (mB 22) 39 = .ok (.return_, 1) ∧ mR 22 = none := by decide +kernel
theorem k22_40 : decode (mB 22) 40 = .ok (.iconst 0, 1) := by decide +kernel
theorem k22_41 : decode (mB 22) 41 = .ok (.istore_n 2, 1) := by decide +kernel
theorem k22_42 : decode (mB 22) 42 = .ok (.iload_n 2, 1) := by decide +kernel
theorem k22_43 : decode (mB 22) 43 = .ok (.aload_n 0, 1) := by decide +kernel
theorem k22_44 : decode (mB 22) 44 = .ok (.getfield 27, 3) ∧ tF (mO 22) 27 = some (3, 0, 1, 1) := by decide +kernel
theorem k22_47 : decode (mB 22) 47 = .ok (.getfield 100, 3) ∧ tF (mO 22) 100 = some (8, 6, 0, 0) := by decide +kernel
theorem k22_50 : decode (mB 22) 50 = .ok (.if_icmp .ge 65, 3) := by decide +kernel
theorem k22_53 : decode (mB 22) 53 = .ok (.aload_n 0, 1) := by decide +kernel
theorem k22_54 : decode (mB 22) 54 = .ok (.getfield 40, 3) ∧ tF (mO 22) 40 = some (3, 1, 1, 1) := by decide +kernel
theorem k22_57 : decode (mB 22) 57 = .ok (.iload_n 2, 1) := by decide +kernel
theorem k22_58 : decode (mB 22) 58 = .ok (.invokevirtual 123, 3) ∧ tVn (mO 22) 123 = some 1 ∧ tV (mO 22) 123 8 = some 87 := by decide +kernel
theorem k22_61 : decode (mB 22) 61 = .ok (.ifCond .ne 48, 3) := by decide +kernel
theorem k22_64 : decode (mB 22) 64 = .ok (.aload_n 0, 1) := by decide +kernel
theorem k22_65 : decode (mB 22) 65 = .ok (.getfield 40, 3) ∧ tF (mO 22) 40 = some (3, 1, 1, 1) := by decide +kernel
theorem k22_68 : decode (mB 22) 68 = .ok (.iload_n 1, 1) := by decide +kernel
theorem k22_69 : decode (mB 22) 69 = .ok (.iload_n 2, 1) := by decide +kernel
theorem k22_70 : decode (mB 22) 70 = .ok (.aload_n 0, 1) := by decide +kernel
theorem k22_71 : decode (mB 22) 71 = .ok (.getfield 40, 3) ∧ tF (mO 22) 40 = some (3, 1, 1, 1) := by decide +kernel
theorem k22_74 : decode (mB 22) 74 = .ok (.getfield 69, 3) ∧ tF (mO 22) 69 = some (8, 1, 1, 1) := by decide +kernel
theorem k22_77 : decode (mB 22) 77 = .ok (.iload_n 2, 1) := by decide +kernel
theorem k22_78 : decode (mB 22) 78 = .ok (.aaload, 1) := by decide +kernel
theorem k22_79 : decode (mB 22) 79 = .ok (.aload_n 0, 1) := by decide +kernel
theorem k22_80 : decode (mB 22) 80 = .ok (.getfield 40, 3) ∧ tF (mO 22) 40 = some (3, 1, 1, 1) := by decide +kernel
theorem k22_83 : decode (mB 22) 83 = .ok (.getfield 59, 3) ∧ tF (mO 22) 59 = some (8, 2, 1, 1) := by decide +kernel
theorem k22_86 : decode (mB 22) 86 = .ok (.iload_n 1, 1) := by decide +kernel
theorem k22_87 : decode (mB 22) 87 = .ok (.iaload, 1) := by decide +kernel
theorem k22_88 : decode (mB 22) 88 = .ok (.invokevirtual 126, 3) ∧ tVn (mO 22) 126 = some 1 ∧ tV (mO 22) 126 1 = some 7 := by decide +kernel
theorem k22_91 : decode (mB 22) 91 = .ok (.invokevirtual 129, 3) ∧ tVn (mO 22) 129 = some 3 ∧ tV (mO 22) 129 8 = some 89 := by decide +kernel
theorem k22_94 : decode (mB 22) 94 = .ok (.aload_n 0, 1) := by decide +kernel
theorem k22_95 : decode (mB 22) 95 = .ok (.iload_n 1, 1) := by decide +kernel
theorem k22_96 : decode (mB 22) 96 = .ok (.iconst 1, 1) := by decide +kernel
theorem k22_97 : decode (mB 22) 97 = .ok (.iadd, 1) := by decide +kernel
theorem k22_98 : decode (mB 22) 98 = .ok (.invokevirtual 113, 3) ∧ tVn (mO 22) 113 = some 1 ∧ tV (mO 22) 113 3 = some 22 := by decide +kernel
theorem k22_101 : decode (mB 22) 101 = .ok (.aload_n 0, 1) := by decide +kernel
theorem k22_102 : decode (mB 22) 102 = .ok (.getfield 40, 3) ∧ tF (mO 22) 40 = some (3, 1, 1, 1) := by decide +kernel
theorem k22_105 : decode (mB 22) 105 = .ok (.iload_n 1, 1) := by decide +kernel
theorem k22_106 : decode (mB 22) 106 = .ok (.invokevirtual 133, 3) ∧ tVn (mO 22) 133 = some 1 ∧ tV (mO 22) 133 8 = some 90 := by decide +kernel
theorem k22_109 : decode (mB 22) 109 = .ok (.iinc 2 1, 3) := by decide +kernel
theorem k22_112 : decode (mB 22) 112 = .ok (.goto (-70), 3) := by decide +kernel
theorem k22_115 : decode (mB 22) 115 = .ok (.return_, 1) ∧ mR 22 = none := by decide +kernel
-- 23: ChairPast$Foresight.weighTrial:()V, locals 3
theorem l23 : mL 23 = 3 := by decide +kernel
theorem k23_0 : decode (mB 23) 0 = .ok (.aload_n 0, 1) := by decide +kernel
theorem k23_1 : decode (mB 23) 1 = .ok (.getfield 40, 3) ∧ tF (mO 23) 40 = some (3, 1, 1, 1) := by decide +kernel
theorem k23_4 : decode (mB 23) 4 = .ok (.invokevirtual 136, 3) ∧ tVn (mO 23) 136 = some 0 ∧ tV (mO 23) 136 8 = some 92 := by decide +kernel
theorem k23_7 : decode (mB 23) 7 = .ok (.istore_n 1, 1) := by decide +kernel
theorem k23_8 : decode (mB 23) 8 = .ok (.iload_n 1, 1) := by decide +kernel
theorem k23_9 : decode (mB 23) 9 = .ok (.aload_n 0, 1) := by decide +kernel
theorem k23_10 : decode (mB 23) 10 = .ok (.getfield 110, 3) ∧ tF (mO 23) 110 = some (3, 7, 0, 0) := by decide +kernel
theorem k23_13 : decode (mB 23) 13 = .ok (.if_icmp .gt 4, 3) := by decide +kernel
theorem k23_16 : decode (mB 23) 16 = .ok (.return_, 1) ∧ mR 23 = none := by decide +kernel
theorem k23_17 : decode (mB 23) 17 = .ok (.aload_n 0, 1) := by decide +kernel
theorem k23_18 : decode (mB 23) 18 = .ok (.iload_n 1, 1) := by decide +kernel
theorem k23_19 : decode (mB 23) 19 = .ok (.putfield 110, 3) ∧ tF (mO 23) 110 = some (3, 7, 0, 0) := by decide +kernel
theorem k23_22 : decode (mB 23) 22 = .ok (.iconst 0, 1) := by decide +kernel
theorem k23_23 : decode (mB 23) 23 = .ok (.istore_n 2, 1) := by decide +kernel
theorem k23_24 : decode (mB 23) 24 = .ok (.iload_n 2, 1) := by decide +kernel
theorem k23_25 : decode (mB 23) 25 = .ok (.iconst 5, 1) := by decide +kernel
theorem k23_26 : decode (mB 23) 26 = .ok (.if_icmp .ge 24, 3) := by decide +kernel
theorem k23_29 : decode (mB 23) 29 = .ok (.aload_n 0, 1) := by decide +kernel
theorem k23_30 : decode (mB 23) 30 = .ok (.getfield 24, 3) ∧ tF (mO 23) 24 = some (3, 6, 1, 1) := by decide +kernel
theorem k23_33 : decode (mB 23) 33 = .ok (.iload_n 2, 1) := by decide +kernel
theorem k23_34 : decode (mB 23) 34 = .ok (.aload_n 0, 1) := by decide +kernel
theorem k23_35 : decode (mB 23) 35 = .ok (.getfield 40, 3) ∧ tF (mO 23) 40 = some (3, 1, 1, 1) := by decide +kernel
theorem k23_38 : decode (mB 23) 38 = .ok (.getfield 139, 3) ∧ tF (mO 23) 139 = some (8, 4, 1, 1) := by decide +kernel
theorem k23_41 : decode (mB 23) 41 = .ok (.iload_n 2, 1) := by decide +kernel
theorem k23_42 : decode (mB 23) 42 = .ok (.iaload, 1) := by decide +kernel
theorem k23_43 : decode (mB 23) 43 = .ok (.iastore, 1) := by decide +kernel
theorem k23_44 : decode (mB 23) 44 = .ok (.iinc 2 1, 3) := by decide +kernel
theorem k23_47 : decode (mB 23) 47 = .ok (.goto (-23), 3) := by decide +kernel
theorem k23_50 : decode (mB 23) 50 = .ok (.return_, 1) ∧ mR 23 = none := by decide +kernel
-- 24: ChairPast$Foresight.fewestSittings:(III)I, locals 7
theorem l24 : mL 24 = 7 := by decide +kernel
theorem k24_0 : decode (mB 24) 0 = .ok (.iconst 1, 1) := by decide +kernel
theorem k24_1 : decode (mB 24) 1 = .ok (.istore 4, 2) := by decide +kernel
theorem k24_3 : decode (mB 24) 3 = .ok (.iconst 0, 1) := by decide +kernel
theorem k24_4 : decode (mB 24) 4 = .ok (.istore 5, 2) := by decide +kernel
theorem k24_6 : decode (mB 24) 6 = .ok (.iload 5, 2) := by decide +kernel
theorem k24_8 : decode (mB 24) 8 = .ok (.iconst 3, 1) := by decide +kernel
theorem k24_9 : decode (mB 24) 9 = .ok (.if_icmp .gt 60, 3) := by decide +kernel
theorem k24_12 : decode (mB 24) 12 = .ok (.iconst 0, 1) := by decide +kernel
theorem k24_13 : decode (mB 24) 13 = .ok (.istore 6, 2) := by decide +kernel
theorem k24_15 : decode (mB 24) 15 = .ok (.iload 6, 2) := by decide +kernel
theorem k24_17 : decode (mB 24) 17 = .ok (.iload 4, 2) := by decide +kernel
theorem k24_19 : decode (mB 24) 19 = .ok (.if_icmp .ge 32, 3) := by decide +kernel
theorem k24_22 : decode (mB 24) 22 = .ok (.aload_n 0, 1) := by decide +kernel
theorem k24_23 : decode (mB 24) 23 = .ok (.iload 6, 2) := by decide +kernel
theorem k24_25 : decode (mB 24) 25 = .ok (.iload 5, 2) := by decide +kernel
theorem k24_27 : decode (mB 24) 27 = .ok (.invokevirtual 142, 3) ∧ tVn (mO 24) 142 = some 2 ∧ tV (mO 24) 142 3 = some 26 := by decide +kernel
theorem k24_30 : decode (mB 24) 30 = .ok (.aload_n 0, 1) := by decide +kernel
theorem k24_31 : decode (mB 24) 31 = .ok (.iload 5, 2) := by decide +kernel
theorem k24_33 : decode (mB 24) 33 = .ok (.iload_n 1, 1) := by decide +kernel
theorem k24_34 : decode (mB 24) 34 = .ok (.iload_n 2, 1) := by decide +kernel
theorem k24_35 : decode (mB 24) 35 = .ok (.invokevirtual 146, 3) ∧ tVn (mO 24) 146 = some 3 ∧ tV (mO 24) 146 3 = some 27 := by decide +kernel
theorem k24_38 : decode (mB 24) 38 = .ok (.iload_n 3, 1) := by decide +kernel
theorem k24_39 : decode (mB 24) 39 = .ok (.if_icmp .ne 6, 3) := by decide +kernel
theorem k24_42 : decode (mB 24) 42 = .ok (.iload 5, 2) := by decide +kernel
theorem k24_44 : decode (mB 24) 44 = .ok (.ireturn, 1) ∧ mR 24 = (some .int) := by decide +kernel
theorem k24_45 : decode (mB 24) 45 = .ok (.iinc 6 1, 3) := by decide +kernel
theorem k24_48 : decode (mB 24) 48 = .ok (.goto (-33), 3) := by decide +kernel
theorem k24_51 : decode (mB 24) 51 = .ok (.iload 4, 2) := by decide +kernel
theorem k24_53 : decode (mB 24) 53 = .ok (.aload_n 0, 1) := by decide +kernel
theorem k24_54 : decode (mB 24) 54 = .ok (.getfield 27, 3) ∧ tF (mO 24) 27 = some (3, 0, 1, 1) := by decide +kernel
theorem k24_57 : decode (mB 24) 57 = .ok (.getfield 88, 3) ∧ tF (mO 24) 88 = some (8, 7, 0, 0) := by decide +kernel
theorem k24_60 : decode (mB 24) 60 = .ok (.imul, 1) := by decide +kernel
theorem k24_61 : decode (mB 24) 61 = .ok (.istore 4, 2) := by decide +kernel
theorem k24_63 : decode (mB 24) 63 = .ok (.iinc 5 1, 3) := by decide +kernel
theorem k24_66 : decode (mB 24) 66 = .ok (.goto (-60), 3) := by decide +kernel
theorem k24_69 : decode (mB 24) 69 = .ok (.ldc 106, 2) ∧ tK (mO 24) 106 = some (-1000000) := by decide +kernel
theorem k24_71 : decode (mB 24) 71 = .ok (.ireturn, 1) ∧ mR 24 = (some .int) := by decide +kernel
-- 25: ChairPast$Foresight.sitterOf:(I)I, locals 2
theorem l25 : mL 25 = 2 := by decide +kernel
theorem k25_0 : decode (mB 25) 0 = .ok (.iload_n 1, 1) := by decide +kernel
theorem k25_1 : decode (mB 25) 1 = .ok (.ifCond .lt 17, 3) := by decide +kernel
theorem k25_4 : decode (mB 25) 4 = .ok (.iload_n 1, 1) := by decide +kernel
theorem k25_5 : decode (mB 25) 5 = .ok (.iconst 3, 1) := by decide +kernel
theorem k25_6 : decode (mB 25) 6 = .ok (.if_icmp .ge 12, 3) := by decide +kernel
theorem k25_9 : decode (mB 25) 9 = .ok (.aload_n 0, 1) := by decide +kernel
theorem k25_10 : decode (mB 25) 10 = .ok (.getfield 20, 3) ∧ tF (mO 25) 20 = some (3, 5, 1, 1) := by decide +kernel
theorem k25_13 : decode (mB 25) 13 = .ok (.iload_n 1, 1) := by decide +kernel
theorem k25_14 : decode (mB 25) 14 = .ok (.iaload, 1) := by decide +kernel
theorem k25_15 : decode (mB 25) 15 = .ok (.goto 5, 3) := by decide +kernel
theorem k25_18 : decode (mB 25) 18 = .ok (.ldc 106, 2) ∧ tK (mO 25) 106 = some (-1000000) := by decide +kernel
theorem k25_20 : decode (mB 25) 20 = .ok (.ireturn, 1) ∧ mR 25 = (some .int) := by decide +kernel
-- 26: ChairPast$Foresight.spellSitters:(II)V, locals 6
theorem l26 : mL 26 = 6 := by decide +kernel
theorem k26_0 : decode (mB 26) 0 = .ok (.aload_n 0, 1) := by decide +kernel
theorem k26_1 : decode (mB 26) 1 = .ok (.getfield 27, 3) ∧ tF (mO 26) 27 = some (3, 0, 1, 1) := by decide +kernel
theorem k26_4 : decode (mB 26) 4 = .ok (.getfield 88, 3) ∧ tF (mO 26) 88 = some (8, 7, 0, 0) := by decide +kernel
theorem k26_7 : decode (mB 26) 7 = .ok (.iconst 1, 1) := by decide +kernel
theorem k26_8 : decode (mB 26) 8 = .ok (.invokestatic 150, 3) ∧ tM (mO 26) 150 = some 3 := by decide +kernel
theorem k26_11 : decode (mB 26) 11 = .ok (.istore_n 3, 1) := by decide +kernel
theorem k26_12 : decode (mB 26) 12 = .ok (.iload_n 1, 1) := by decide +kernel
theorem k26_13 : decode (mB 26) 13 = .ok (.istore 4, 2) := by decide +kernel
theorem k26_15 : decode (mB 26) 15 = .ok (.iload_n 2, 1) := by decide +kernel
theorem k26_16 : decode (mB 26) 16 = .ok (.iconst 1, 1) := by decide +kernel
theorem k26_17 : decode (mB 26) 17 = .ok (.isub, 1) := by decide +kernel
theorem k26_18 : decode (mB 26) 18 = .ok (.istore 5, 2) := by decide +kernel
theorem k26_20 : decode (mB 26) 20 = .ok (.iload 5, 2) := by decide +kernel
theorem k26_22 : decode (mB 26) 22 = .ok (.ifCond .lt 26, 3) := by decide +kernel
theorem k26_25 : decode (mB 26) 25 = .ok (.aload_n 0, 1) := by decide +kernel
theorem k26_26 : decode (mB 26) 26 = .ok (.getfield 20, 3) ∧ tF (mO 26) 20 = some (3, 5, 1, 1) := by decide +kernel
theorem k26_29 : decode (mB 26) 29 = .ok (.iload 5, 2) := by decide +kernel
theorem k26_31 : decode (mB 26) 31 = .ok (.iload 4, 2) := by decide +kernel
theorem k26_33 : decode (mB 26) 33 = .ok (.iload_n 3, 1) := by decide +kernel
theorem k26_34 : decode (mB 26) 34 = .ok (.irem, 1) := by decide +kernel
theorem k26_35 : decode (mB 26) 35 = .ok (.iastore, 1) := by decide +kernel
theorem k26_36 : decode (mB 26) 36 = .ok (.iload 4, 2) := by decide +kernel
theorem k26_38 : decode (mB 26) 38 = .ok (.iload_n 3, 1) := by decide +kernel
theorem k26_39 : decode (mB 26) 39 = .ok (.idiv, 1) := by decide +kernel
theorem k26_40 : decode (mB 26) 40 = .ok (.istore 4, 2) := by decide +kernel
theorem k26_42 : decode (mB 26) 42 = .ok (.iinc 5 (-1), 3) := by decide +kernel
theorem k26_45 : decode (mB 26) 45 = .ok (.goto (-25), 3) := by decide +kernel
theorem k26_48 : decode (mB 26) 48 = .ok (.return_, 1) ∧ mR 26 = none := by decide +kernel
-- 27: ChairPast$Foresight.bearingBehind:(III)I, locals 5
theorem l27 : mL 27 = 5 := by decide +kernel
theorem k27_0 : decode (mB 27) 0 = .ok (.aload_n 0, 1) := by decide +kernel
theorem k27_1 : decode (mB 27) 1 = .ok (.getfield 48, 3) ∧ tF (mO 27) 48 = some (3, 3, 1, 1) := by decide +kernel
theorem k27_4 : decode (mB 27) 4 = .ok (.aload_n 0, 1) := by decide +kernel
theorem k27_5 : decode (mB 27) 5 = .ok (.getfield 27, 3) ∧ tF (mO 27) 27 = some (3, 0, 1, 1) := by decide +kernel
theorem k27_8 : decode (mB 27) 8 = .ok (.getfield 69, 3) ∧ tF (mO 27) 69 = some (8, 1, 1, 1) := by decide +kernel
theorem k27_11 : decode (mB 27) 11 = .ok (.iload_n 3, 1) := by decide +kernel
theorem k27_12 : decode (mB 27) 12 = .ok (.aaload, 1) := by decide +kernel
theorem k27_13 : decode (mB 27) 13 = .ok (.invokevirtual 73, 3) ∧ tVn (mO 27) 73 = some 1 ∧ tV (mO 27) 73 1 = some 10 := by decide +kernel
theorem k27_16 : decode (mB 27) 16 = .ok (.iconst 0, 1) := by decide +kernel
theorem k27_17 : decode (mB 27) 17 = .ok (.istore 4, 2) := by decide +kernel
theorem k27_19 : decode (mB 27) 19 = .ok (.iload 4, 2) := by decide +kernel
theorem k27_21 : decode (mB 27) 21 = .ok (.iload_n 1, 1) := by decide +kernel
theorem k27_22 : decode (mB 27) 22 = .ok (.if_icmp .ge 21, 3) := by decide +kernel
theorem k27_25 : decode (mB 27) 25 = .ok (.aload_n 0, 1) := by decide +kernel
theorem k27_26 : decode (mB 27) 26 = .ok (.aload_n 0, 1) := by decide +kernel
theorem k27_27 : decode (mB 27) 27 = .ok (.getfield 20, 3) ∧ tF (mO 27) 20 = some (3, 5, 1, 1) := by decide +kernel
theorem k27_30 : decode (mB 27) 30 = .ok (.iload 4, 2) := by decide +kernel
theorem k27_32 : decode (mB 27) 32 = .ok (.iaload, 1) := by decide +kernel
theorem k27_33 : decode (mB 27) 33 = .ok (.invokevirtual 77, 3) ∧ tVn (mO 27) 77 = some 1 ∧ tV (mO 27) 77 3 = some 19 := by decide +kernel
theorem k27_36 : decode (mB 27) 36 = .ok (.pop, 1) := by decide +kernel
theorem k27_37 : decode (mB 27) 37 = .ok (.iinc 4 1, 3) := by decide +kernel
theorem k27_40 : decode (mB 27) 40 = .ok (.goto (-21), 3) := by decide +kernel
theorem k27_43 : decode (mB 27) 43 = .ok (.aload_n 0, 1) := by decide +kernel
theorem k27_44 : decode (mB 27) 44 = .ok (.getfield 48, 3) ∧ tF (mO 27) 48 = some (3, 3, 1, 1) := by decide +kernel
theorem k27_47 : decode (mB 27) 47 = .ok (.aload_n 0, 1) := by decide +kernel
theorem k27_48 : decode (mB 27) 48 = .ok (.getfield 27, 3) ∧ tF (mO 27) 27 = some (3, 0, 1, 1) := by decide +kernel
theorem k27_51 : decode (mB 27) 51 = .ok (.getfield 59, 3) ∧ tF (mO 27) 59 = some (8, 2, 1, 1) := by decide +kernel
theorem k27_54 : decode (mB 27) 54 = .ok (.iload_n 2, 1) := by decide +kernel
theorem k27_55 : decode (mB 27) 55 = .ok (.iaload, 1) := by decide +kernel
theorem k27_56 : decode (mB 27) 56 = .ok (.invokevirtual 126, 3) ∧ tVn (mO 27) 126 = some 1 ∧ tV (mO 27) 126 1 = some 7 := by decide +kernel
theorem k27_59 : decode (mB 27) 59 = .ok (.ireturn, 1) ∧ mR 27 = (some .int) := by decide +kernel
-- 28: ChairPast$Foresight.sittingsToOwn:(II)I, locals 4
theorem l28 : mL 28 = 4 := by decide +kernel
theorem k28_0 : decode (mB 28) 0 = .ok (.aload_n 0, 1) := by decide +kernel
theorem k28_1 : decode (mB 28) 1 = .ok (.getfield 48, 3) ∧ tF (mO 28) 48 = some (3, 3, 1, 1) := by decide +kernel
theorem k28_4 : decode (mB 28) 4 = .ok (.aload_n 0, 1) := by decide +kernel
theorem k28_5 : decode (mB 28) 5 = .ok (.getfield 27, 3) ∧ tF (mO 28) 27 = some (3, 0, 1, 1) := by decide +kernel
theorem k28_8 : decode (mB 28) 8 = .ok (.getfield 69, 3) ∧ tF (mO 28) 69 = some (8, 1, 1, 1) := by decide +kernel
theorem k28_11 : decode (mB 28) 11 = .ok (.iload_n 2, 1) := by decide +kernel
theorem k28_12 : decode (mB 28) 12 = .ok (.aaload, 1) := by decide +kernel
theorem k28_13 : decode (mB 28) 13 = .ok (.invokevirtual 73, 3) ∧ tVn (mO 28) 73 = some 1 ∧ tV (mO 28) 73 1 = some 10 := by decide +kernel
theorem k28_16 : decode (mB 28) 16 = .ok (.iconst 0, 1) := by decide +kernel
theorem k28_17 : decode (mB 28) 17 = .ok (.istore_n 3, 1) := by decide +kernel
theorem k28_18 : decode (mB 28) 18 = .ok (.iload_n 3, 1) := by decide +kernel
theorem k28_19 : decode (mB 28) 19 = .ok (.bipush 20, 2) := by decide +kernel
theorem k28_21 : decode (mB 28) 21 = .ok (.if_icmp .gt 28, 3) := by decide +kernel
theorem k28_24 : decode (mB 28) 24 = .ok (.aload_n 0, 1) := by decide +kernel
theorem k28_25 : decode (mB 28) 25 = .ok (.iload_n 1, 1) := by decide +kernel
theorem k28_26 : decode (mB 28) 26 = .ok (.invokevirtual 77, 3) ∧ tVn (mO 28) 77 = some 1 ∧ tV (mO 28) 77 3 = some 19 := by decide +kernel
theorem k28_29 : decode (mB 28) 29 = .ok (.aload_n 0, 1) := by decide +kernel
theorem k28_30 : decode (mB 28) 30 = .ok (.getfield 27, 3) ∧ tF (mO 28) 27 = some (3, 0, 1, 1) := by decide +kernel
theorem k28_33 : decode (mB 28) 33 = .ok (.getfield 59, 3) ∧ tF (mO 28) 59 = some (8, 2, 1, 1) := by decide +kernel
theorem k28_36 : decode (mB 28) 36 = .ok (.iload_n 1, 1) := by decide +kernel
theorem k28_37 : decode (mB 28) 37 = .ok (.iaload, 1) := by decide +kernel
theorem k28_38 : decode (mB 28) 38 = .ok (.if_icmp .ne 5, 3) := by decide +kernel
theorem k28_41 : decode (mB 28) 41 = .ok (.iload_n 3, 1) := by decide +kernel
theorem k28_42 : decode (mB 28) 42 = .ok (.ireturn, 1) ∧ mR 28 = (some .int) := by decide +kernel
theorem k28_43 : decode (mB 28) 43 = .ok (.iinc 3 1, 3) := by decide +kernel
theorem k28_46 : decode (mB 28) 46 = .ok (.goto (-28), 3) := by decide +kernel
theorem k28_49 : decode (mB 28) 49 = .ok (.ldc 106, 2) ∧ tK (mO 28) 106 = some (-1000000) := by decide +kernel
theorem k28_51 : decode (mB 28) 51 = .ok (.ireturn, 1) ∧ mR 28 = (some .int) := by decide +kernel
-- 29: ChairPast$Foresight.sittersLeaving:(III)I, locals 6
theorem l29 : mL 29 = 6 := by decide +kernel
theorem k29_0 : decode (mB 29) 0 = .ok (.iconst 0, 1) := by decide +kernel
theorem k29_1 : decode (mB 29) 1 = .ok (.istore 4, 2) := by decide +kernel
theorem k29_3 : decode (mB 29) 3 = .ok (.iconst 0, 1) := by decide +kernel
theorem k29_4 : decode (mB 29) 4 = .ok (.istore 5, 2) := by decide +kernel
theorem k29_6 : decode (mB 29) 6 = .ok (.iload 5, 2) := by decide +kernel
theorem k29_8 : decode (mB 29) 8 = .ok (.aload_n 0, 1) := by decide +kernel
theorem k29_9 : decode (mB 29) 9 = .ok (.getfield 27, 3) ∧ tF (mO 29) 27 = some (3, 0, 1, 1) := by decide +kernel
theorem k29_12 : decode (mB 29) 12 = .ok (.getfield 88, 3) ∧ tF (mO 29) 88 = some (8, 7, 0, 0) := by decide +kernel
theorem k29_15 : decode (mB 29) 15 = .ok (.if_icmp .ge 53, 3) := by decide +kernel
theorem k29_18 : decode (mB 29) 18 = .ok (.aload_n 0, 1) := by decide +kernel
theorem k29_19 : decode (mB 29) 19 = .ok (.getfield 48, 3) ∧ tF (mO 29) 48 = some (3, 3, 1, 1) := by decide +kernel
theorem k29_22 : decode (mB 29) 22 = .ok (.aload_n 0, 1) := by decide +kernel
theorem k29_23 : decode (mB 29) 23 = .ok (.getfield 27, 3) ∧ tF (mO 29) 27 = some (3, 0, 1, 1) := by decide +kernel
theorem k29_26 : decode (mB 29) 26 = .ok (.getfield 69, 3) ∧ tF (mO 29) 69 = some (8, 1, 1, 1) := by decide +kernel
theorem k29_29 : decode (mB 29) 29 = .ok (.iload_n 1, 1) := by decide +kernel
theorem k29_30 : decode (mB 29) 30 = .ok (.aaload, 1) := by decide +kernel
theorem k29_31 : decode (mB 29) 31 = .ok (.invokevirtual 73, 3) ∧ tVn (mO 29) 73 = some 1 ∧ tV (mO 29) 73 1 = some 10 := by decide +kernel
theorem k29_34 : decode (mB 29) 34 = .ok (.aload_n 0, 1) := by decide +kernel
theorem k29_35 : decode (mB 29) 35 = .ok (.iload 5, 2) := by decide +kernel
theorem k29_37 : decode (mB 29) 37 = .ok (.invokevirtual 77, 3) ∧ tVn (mO 29) 77 = some 1 ∧ tV (mO 29) 77 3 = some 19 := by decide +kernel
theorem k29_40 : decode (mB 29) 40 = .ok (.pop, 1) := by decide +kernel
theorem k29_41 : decode (mB 29) 41 = .ok (.aload_n 0, 1) := by decide +kernel
theorem k29_42 : decode (mB 29) 42 = .ok (.getfield 48, 3) ∧ tF (mO 29) 48 = some (3, 3, 1, 1) := by decide +kernel
theorem k29_45 : decode (mB 29) 45 = .ok (.iload_n 2, 1) := by decide +kernel
theorem k29_46 : decode (mB 29) 46 = .ok (.iload_n 3, 1) := by decide +kernel
theorem k29_47 : decode (mB 29) 47 = .ok (.invokevirtual 155, 3) ∧ tVn (mO 29) 155 = some 2 ∧ tV (mO 29) 155 1 = some 9 := by decide +kernel
theorem k29_50 : decode (mB 29) 50 = .ok (.ifCond .eq 12, 3) := by decide +kernel
theorem k29_53 : decode (mB 29) 53 = .ok (.iload 4, 2) := by decide +kernel
theorem k29_55 : decode (mB 29) 55 = .ok (.iconst 1, 1) := by decide +kernel
theorem k29_56 : decode (mB 29) 56 = .ok (.iload 5, 2) := by decide +kernel
theorem k29_58 : decode (mB 29) 58 = .ok (.ishl, 1) := by decide +kernel
theorem k29_59 : decode (mB 29) 59 = .ok (.ior, 1) := by decide +kernel
theorem k29_60 : decode (mB 29) 60 = .ok (.istore 4, 2) := by decide +kernel
theorem k29_62 : decode (mB 29) 62 = .ok (.iinc 5 1, 3) := by decide +kernel
theorem k29_65 : decode (mB 29) 65 = .ok (.goto (-59), 3) := by decide +kernel
theorem k29_68 : decode (mB 29) 68 = .ok (.iload 4, 2) := by decide +kernel
theorem k29_70 : decode (mB 29) 70 = .ok (.ireturn, 1) ∧ mR 29 = (some .int) := by decide +kernel
-- 30: ChairPast$Foresight.pairsLeaving:(III)I, locals 7
theorem l30 : mL 30 = 7 := by decide +kernel
theorem k30_0 : decode (mB 30) 0 = .ok (.iconst 0, 1) := by decide +kernel
theorem k30_1 : decode (mB 30) 1 = .ok (.istore 4, 2) := by decide +kernel
theorem k30_3 : decode (mB 30) 3 = .ok (.iconst 0, 1) := by decide +kernel
theorem k30_4 : decode (mB 30) 4 = .ok (.istore 5, 2) := by decide +kernel
theorem k30_6 : decode (mB 30) 6 = .ok (.iload 5, 2) := by decide +kernel
theorem k30_8 : decode (mB 30) 8 = .ok (.aload_n 0, 1) := by decide +kernel
theorem k30_9 : decode (mB 30) 9 = .ok (.getfield 27, 3) ∧ tF (mO 30) 27 = some (3, 0, 1, 1) := by decide +kernel
theorem k30_12 : decode (mB 30) 12 = .ok (.getfield 88, 3) ∧ tF (mO 30) 88 = some (8, 7, 0, 0) := by decide +kernel
theorem k30_15 : decode (mB 30) 15 = .ok (.if_icmp .ge 75, 3) := by decide +kernel
theorem k30_18 : decode (mB 30) 18 = .ok (.iconst 0, 1) := by decide +kernel
theorem k30_19 : decode (mB 30) 19 = .ok (.istore 6, 2) := by decide +kernel
theorem k30_21 : decode (mB 30) 21 = .ok (.iload 6, 2) := by decide +kernel
theorem k30_23 : decode (mB 30) 23 = .ok (.aload_n 0, 1) := by decide +kernel
theorem k30_24 : decode (mB 30) 24 = .ok (.getfield 27, 3) ∧ tF (mO 30) 27 = some (3, 0, 1, 1) := by decide +kernel
theorem k30_27 : decode (mB 30) 27 = .ok (.getfield 88, 3) ∧ tF (mO 30) 88 = some (8, 7, 0, 0) := by decide +kernel
theorem k30_30 : decode (mB 30) 30 = .ok (.if_icmp .ge 54, 3) := by decide +kernel
theorem k30_33 : decode (mB 30) 33 = .ok (.aload_n 0, 1) := by decide +kernel
theorem k30_34 : decode (mB 30) 34 = .ok (.getfield 48, 3) ∧ tF (mO 30) 48 = some (3, 3, 1, 1) := by decide +kernel
theorem k30_37 : decode (mB 30) 37 = .ok (.aload_n 0, 1) := by decide +kernel
theorem k30_38 : decode (mB 30) 38 = .ok (.getfield 27, 3) ∧ tF (mO 30) 27 = some (3, 0, 1, 1) := by decide +kernel
theorem k30_41 : decode (mB 30) 41 = .ok (.getfield 69, 3) ∧ tF (mO 30) 69 = some (8, 1, 1, 1) := by decide +kernel
theorem k30_44 : decode (mB 30) 44 = .ok (.iload_n 1, 1) := by decide +kernel
theorem k30_45 : decode (mB 30) 45 = .ok (.aaload, 1) := by decide +kernel
theorem k30_46 : decode (mB 30) 46 = .ok (.invokevirtual 73, 3) ∧ tVn (mO 30) 73 = some 1 ∧ tV (mO 30) 73 1 = some 10 := by decide +kernel
theorem k30_49 : decode (mB 30) 49 = .ok (.aload_n 0, 1) := by decide +kernel
theorem k30_50 : decode (mB 30) 50 = .ok (.iload 5, 2) := by decide +kernel
theorem k30_52 : decode (mB 30) 52 = .ok (.invokevirtual 77, 3) ∧ tVn (mO 30) 77 = some 1 ∧ tV (mO 30) 77 3 = some 19 := by decide +kernel
theorem k30_55 : decode (mB 30) 55 = .ok (.pop, 1) := by decide +kernel
theorem k30_56 : decode (mB 30) 56 = .ok (.aload_n 0, 1) := by decide +kernel
theorem k30_57 : decode (mB 30) 57 = .ok (.iload 6, 2) := by decide +kernel
theorem k30_59 : decode (mB 30) 59 = .ok (.invokevirtual 77, 3) ∧ tVn (mO 30) 77 = some 1 ∧ tV (mO 30) 77 3 = some 19 := by decide +kernel
theorem k30_62 : decode (mB 30) 62 = .ok (.pop, 1) := by decide +kernel
theorem k30_63 : decode (mB 30) 63 = .ok (.aload_n 0, 1) := by decide +kernel
theorem k30_64 : decode (mB 30) 64 = .ok (.getfield 48, 3) ∧ tF (mO 30) 48 = some (3, 3, 1, 1) := by decide +kernel
theorem k30_67 : decode (mB 30) 67 = .ok (.iload_n 2, 1) := by decide +kernel
theorem k30_68 : decode (mB 30) 68 = .ok (.iload_n 3, 1) := by decide +kernel
theorem k30_69 : decode (mB 30) 69 = .ok (.invokevirtual 155, 3) ∧ tVn (mO 30) 155 = some 2 ∧ tV (mO 30) 155 1 = some 9 := by decide +kernel
theorem k30_72 : decode (mB 30) 72 = .ok (.ifCond .eq 6, 3) := by decide +kernel
theorem k30_75 : decode (mB 30) 75 = .ok (.iinc 4 1, 3) := by decide +kernel
theorem k30_78 : decode (mB 30) 78 = .ok (.iinc 6 1, 3) := by decide +kernel
theorem k30_81 : decode (mB 30) 81 = .ok (.goto (-60), 3) := by decide +kernel
theorem k30_84 : decode (mB 30) 84 = .ok (.iinc 5 1, 3) := by decide +kernel
theorem k30_87 : decode (mB 30) 87 = .ok (.goto (-81), 3) := by decide +kernel
theorem k30_90 : decode (mB 30) 90 = .ok (.iload 4, 2) := by decide +kernel
theorem k30_92 : decode (mB 30) 92 = .ok (.ireturn, 1) ∧ mR 30 = (some .int) := by decide +kernel
-- 31: ChairPast$Foresight.ownsBy:([II)I, locals 5
theorem l31 : mL 31 = 5 := by decide +kernel
theorem k31_0 : decode (mB 31) 0 = .ok (.iconst 0, 1) := by decide +kernel
theorem k31_1 : decode (mB 31) 1 = .ok (.istore_n 3, 1) := by decide +kernel
theorem k31_2 : decode (mB 31) 2 = .ok (.iconst 0, 1) := by decide +kernel
theorem k31_3 : decode (mB 31) 3 = .ok (.istore 4, 2) := by decide +kernel
theorem k31_5 : decode (mB 31) 5 = .ok (.iload 4, 2) := by decide +kernel
theorem k31_7 : decode (mB 31) 7 = .ok (.bipush 10, 2) := by decide +kernel
theorem k31_9 : decode (mB 31) 9 = .ok (.if_icmp .ge 27, 3) := by decide +kernel
theorem k31_12 : decode (mB 31) 12 = .ok (.aload_n 0, 1) := by decide +kernel
theorem k31_13 : decode (mB 31) 13 = .ok (.iload 4, 2) := by decide +kernel
theorem k31_15 : decode (mB 31) 15 = .ok (.aload_n 1, 1) := by decide +kernel
theorem k31_16 : decode (mB 31) 16 = .ok (.iload_n 2, 1) := by decide +kernel
theorem k31_17 : decode (mB 31) 17 = .ok (.invokevirtual 159, 3) ∧ tVn (mO 31) 159 = some 3 ∧ tV (mO 31) 159 3 = some 32 := by decide +kernel
theorem k31_20 : decode (mB 31) 20 = .ok (.ifCond .eq 10, 3) := by decide +kernel
theorem k31_23 : decode (mB 31) 23 = .ok (.iload_n 3, 1) := by decide +kernel
theorem k31_24 : decode (mB 31) 24 = .ok (.iconst 1, 1) := by decide +kernel
theorem k31_25 : decode (mB 31) 25 = .ok (.iload 4, 2) := by decide +kernel
theorem k31_27 : decode (mB 31) 27 = .ok (.ishl, 1) := by decide +kernel
theorem k31_28 : decode (mB 31) 28 = .ok (.ior, 1) := by decide +kernel
theorem k31_29 : decode (mB 31) 29 = .ok (.istore_n 3, 1) := by decide +kernel
theorem k31_30 : decode (mB 31) 30 = .ok (.iinc 4 1, 3) := by decide +kernel
theorem k31_33 : decode (mB 31) 33 = .ok (.goto (-28), 3) := by decide +kernel
theorem k31_36 : decode (mB 31) 36 = .ok (.iload_n 3, 1) := by decide +kernel
theorem k31_37 : decode (mB 31) 37 = .ok (.ireturn, 1) ∧ mR 31 = (some .int) := by decide +kernel
-- 32: ChairPast$Foresight.ownGives:(I[II)Z, locals 5
theorem l32 : mL 32 = 5 := by decide +kernel
theorem k32_0 : decode (mB 32) 0 = .ok (.iconst 0, 1) := by decide +kernel
theorem k32_1 : decode (mB 32) 1 = .ok (.istore 4, 2) := by decide +kernel
theorem k32_3 : decode (mB 32) 3 = .ok (.iload 4, 2) := by decide +kernel
theorem k32_5 : decode (mB 32) 5 = .ok (.aload_n 0, 1) := by decide +kernel
theorem k32_6 : decode (mB 32) 6 = .ok (.getfield 27, 3) ∧ tF (mO 32) 27 = some (3, 0, 1, 1) := by decide +kernel
theorem k32_9 : decode (mB 32) 9 = .ok (.getfield 100, 3) ∧ tF (mO 32) 100 = some (8, 6, 0, 0) := by decide +kernel
theorem k32_12 : decode (mB 32) 12 = .ok (.if_icmp .ge 34, 3) := by decide +kernel
theorem k32_15 : decode (mB 32) 15 = .ok (.aload_n 0, 1) := by decide +kernel
theorem k32_16 : decode (mB 32) 16 = .ok (.getfield 27, 3) ∧ tF (mO 32) 27 = some (3, 0, 1, 1) := by decide +kernel
theorem k32_19 : decode (mB 32) 19 = .ok (.getfield 69, 3) ∧ tF (mO 32) 69 = some (8, 1, 1, 1) := by decide +kernel
theorem k32_22 : decode (mB 32) 22 = .ok (.iload 4, 2) := by decide +kernel
theorem k32_24 : decode (mB 32) 24 = .ok (.aaload, 1) := by decide +kernel
theorem k32_25 : decode (mB 32) 25 = .ok (.iload_n 1, 1) := by decide +kernel
theorem k32_26 : decode (mB 32) 26 = .ok (.invokevirtual 126, 3) ∧ tVn (mO 32) 126 = some 1 ∧ tV (mO 32) 126 1 = some 7 := by decide +kernel
theorem k32_29 : decode (mB 32) 29 = .ok (.aload_n 2, 1) := by decide +kernel
theorem k32_30 : decode (mB 32) 30 = .ok (.iload_n 3, 1) := by decide +kernel
theorem k32_31 : decode (mB 32) 31 = .ok (.iload 4, 2) := by decide +kernel
theorem k32_33 : decode (mB 32) 33 = .ok (.iadd, 1) := by decide +kernel
theorem k32_34 : decode (mB 32) 34 = .ok (.iaload, 1) := by decide +kernel
theorem k32_35 : decode (mB 32) 35 = .ok (.if_icmp .eq 5, 3) := by decide +kernel
theorem k32_38 : decode (mB 32) 38 = .ok (.iconst 0, 1) := by decide +kernel
theorem k32_39 : decode (mB 32) 39 = .ok (.ireturn, 1) ∧ mR 32 = (some .boolean) := by decide +kernel
theorem k32_40 : decode (mB 32) 40 = .ok (.iinc 4 1, 3) := by decide +kernel
theorem k32_43 : decode (mB 32) 43 = .ok (.goto (-40), 3) := by decide +kernel
theorem k32_46 : decode (mB 32) 46 = .ok (.iconst 1, 1) := by decide +kernel
theorem k32_47 : decode (mB 32) 47 = .ok (.ireturn, 1) ∧ mR 32 = (some .boolean) := by decide +kernel
-- 33: ChairPast$Foresight.fitsBy:(I[III)I, locals 9
theorem l33 : mL 33 = 9 := by decide +kernel
theorem k33_0 : decode (mB 33) 0 = .ok (.iload 4, 2) := by decide +kernel
theorem k33_2 : decode (mB 33) 2 = .ok (.iconst 2, 1) := by decide +kernel
theorem k33_3 : decode (mB 33) 3 = .ok (.if_icmp .ne 7, 3) := by decide +kernel
theorem k33_6 : decode (mB 33) 6 = .ok (.iconst 1, 1) := by decide +kernel
theorem k33_7 : decode (mB 33) 7 = .ok (.goto 4, 3) := by decide +kernel
theorem k33_10 : decode (mB 33) 10 = .ok (.iconst 0, 1) := by decide +kernel
theorem k33_11 : decode (mB 33) 11 = .ok (.istore 5, 2) := by decide +kernel
theorem k33_13 : decode (mB 33) 13 = .ok (.iload 4, 2) := by decide +kernel
theorem k33_15 : decode (mB 33) 15 = .ok (.ifCond .ne 8, 3) := by decide +kernel
theorem k33_18 : decode (mB 33) 18 = .ok (.bipush 9, 2) := by decide +kernel
theorem k33_20 : decode (mB 33) 20 = .ok (.goto 15, 3) := by decide +kernel
theorem k33_23 : decode (mB 33) 23 = .ok (.iload 4, 2) := by decide +kernel
theorem k33_25 : decode (mB 33) 25 = .ok (.iconst 1, 1) := by decide +kernel
theorem k33_26 : decode (mB 33) 26 = .ok (.if_icmp .ne 8, 3) := by decide +kernel
theorem k33_29 : decode (mB 33) 29 = .ok (.bipush 16, 2) := by decide +kernel
theorem k33_31 : decode (mB 33) 31 = .ok (.goto 4, 3) := by decide +kernel
theorem k33_34 : decode (mB 33) 34 = .ok (.iconst 5, 1) := by decide +kernel
theorem k33_35 : decode (mB 33) 35 = .ok (.istore 6, 2) := by decide +kernel
theorem k33_37 : decode (mB 33) 37 = .ok (.iconst 0, 1) := by decide +kernel
theorem k33_38 : decode (mB 33) 38 = .ok (.istore 7, 2) := by decide +kernel
theorem k33_40 : decode (mB 33) 40 = .ok (.iload 5, 2) := by decide +kernel
theorem k33_42 : decode (mB 33) 42 = .ok (.istore 8, 2) := by decide +kernel
theorem k33_44 : decode (mB 33) 44 = .ok (.iload 8, 2) := by decide +kernel
theorem k33_46 : decode (mB 33) 46 = .ok (.iload 6, 2) := by decide +kernel
theorem k33_48 : decode (mB 33) 48 = .ok (.if_icmp .gt 51, 3) := by decide +kernel
theorem k33_51 : decode (mB 33) 51 = .ok (.aload_n 0, 1) := by decide +kernel
theorem k33_52 : decode (mB 33) 52 = .ok (.getfield 48, 3) ∧ tF (mO 33) 48 = some (3, 3, 1, 1) := by decide +kernel
theorem k33_55 : decode (mB 33) 55 = .ok (.aload_n 0, 1) := by decide +kernel
theorem k33_56 : decode (mB 33) 56 = .ok (.getfield 27, 3) ∧ tF (mO 33) 27 = some (3, 0, 1, 1) := by decide +kernel
theorem k33_59 : decode (mB 33) 59 = .ok (.getfield 69, 3) ∧ tF (mO 33) 69 = some (8, 1, 1, 1) := by decide +kernel
theorem k33_62 : decode (mB 33) 62 = .ok (.iload_n 1, 1) := by decide +kernel
theorem k33_63 : decode (mB 33) 63 = .ok (.aaload, 1) := by decide +kernel
theorem k33_64 : decode (mB 33) 64 = .ok (.invokevirtual 73, 3) ∧ tVn (mO 33) 73 = some 1 ∧ tV (mO 33) 73 1 = some 10 := by decide +kernel
theorem k33_67 : decode (mB 33) 67 = .ok (.aload_n 0, 1) := by decide +kernel
theorem k33_68 : decode (mB 33) 68 = .ok (.iload 4, 2) := by decide +kernel
theorem k33_70 : decode (mB 33) 70 = .ok (.iload 8, 2) := by decide +kernel
theorem k33_72 : decode (mB 33) 72 = .ok (.invokevirtual 163, 3) ∧ tVn (mO 33) 163 = some 2 ∧ tV (mO 33) 163 3 = some 34 := by decide +kernel
theorem k33_75 : decode (mB 33) 75 = .ok (.aload_n 0, 1) := by decide +kernel
theorem k33_76 : decode (mB 33) 76 = .ok (.aload_n 2, 1) := by decide +kernel
theorem k33_77 : decode (mB 33) 77 = .ok (.iload_n 3, 1) := by decide +kernel
theorem k33_78 : decode (mB 33) 78 = .ok (.invokevirtual 166, 3) ∧ tVn (mO 33) 166 = some 2 ∧ tV (mO 33) 166 3 = some 35 := by decide +kernel
theorem k33_81 : decode (mB 33) 81 = .ok (.ifCond .eq 12, 3) := by decide +kernel
theorem k33_84 : decode (mB 33) 84 = .ok (.iload 7, 2) := by decide +kernel
theorem k33_86 : decode (mB 33) 86 = .ok (.iconst 1, 1) := by decide +kernel
theorem k33_87 : decode (mB 33) 87 = .ok (.iload 8, 2) := by decide +kernel
theorem k33_89 : decode (mB 33) 89 = .ok (.ishl, 1) := by decide +kernel
theorem k33_90 : decode (mB 33) 90 = .ok (.ior, 1) := by decide +kernel
theorem k33_91 : decode (mB 33) 91 = .ok (.istore 7, 2) := by decide +kernel
theorem k33_93 : decode (mB 33) 93 = .ok (.iinc 8 1, 3) := by decide +kernel
theorem k33_96 : decode (mB 33) 96 = .ok (.goto (-52), 3) := by decide +kernel
theorem k33_99 : decode (mB 33) 99 = .ok (.iload 7, 2) := by decide +kernel
theorem k33_101 : decode (mB 33) 101 = .ok (.ireturn, 1) ∧ mR 33 = (some .int) := by decide +kernel
-- 34: ChairPast$Foresight.alterStool:(II)V, locals 3
theorem l34 : mL 34 = 3 := by decide +kernel
theorem k34_0 : decode (mB 34) 0 = .ok (.iload_n 1, 1) := by decide +kernel
theorem k34_1 : decode (mB 34) 1 = .ok (.lookupswitch 49 #[(0, 27), (1, 38)], 27) := by decide +kernel
theorem k34_28 : decode (mB 34) 28 = .ok (.aload_n 0, 1) := by decide +kernel
theorem k34_29 : decode (mB 34) 29 = .ok (.getfield 48, 3) ∧ tF (mO 34) 48 = some (3, 3, 1, 1) := by decide +kernel
theorem k34_32 : decode (mB 34) 32 = .ok (.iload_n 2, 1) := by decide +kernel
theorem k34_33 : decode (mB 34) 33 = .ok (.putfield 81, 3) ∧ tF (mO 34) 81 = some (1, 1, 0, 0) := by decide +kernel
theorem k34_36 : decode (mB 34) 36 = .ok (.goto 43, 3) := by decide +kernel
theorem k34_39 : decode (mB 34) 39 = .ok (.aload_n 0, 1) := by decide +kernel
theorem k34_40 : decode (mB 34) 40 = .ok (.getfield 48, 3) ∧ tF (mO 34) 48 = some (3, 3, 1, 1) := by decide +kernel
theorem k34_43 : decode (mB 34) 43 = .ok (.iload_n 2, 1) := by decide +kernel
theorem k34_44 : decode (mB 34) 44 = .ok (.putfield 85, 3) ∧ tF (mO 34) 85 = some (1, 2, 0, 0) := by decide +kernel
theorem k34_47 : decode (mB 34) 47 = .ok (.goto 32, 3) := by decide +kernel
theorem k34_50 : decode (mB 34) 50 = .ok (.iload_n 2, 1) := by decide +kernel
theorem k34_51 : decode (mB 34) 51 = .ok (.iconst 1, 1) := by decide +kernel
theorem k34_52 : decode (mB 34) 52 = .ok (.if_icmp .lt 27, 3) := by decide +kernel
theorem k34_55 : decode (mB 34) 55 = .ok (.iload_n 2, 1) := by decide +kernel
theorem k34_56 : decode (mB 34) 56 = .ok (.aload_n 0, 1) := by decide +kernel
theorem k34_57 : decode (mB 34) 57 = .ok (.getfield 31, 3) ∧ tF (mO 34) 31 = some (3, 2, 1, 1) := by decide +kernel
theorem k34_60 : decode (mB 34) 60 = .ok (.arraylength, 1) := by decide +kernel
theorem k34_61 : decode (mB 34) 61 = .ok (.if_icmp .gt 18, 3) := by decide +kernel
theorem k34_64 : decode (mB 34) 64 = .ok (.aload_n 0, 1) := by decide +kernel
theorem k34_65 : decode (mB 34) 65 = .ok (.getfield 48, 3) ∧ tF (mO 34) 48 = some (3, 3, 1, 1) := by decide +kernel
theorem k34_68 : decode (mB 34) 68 = .ok (.aload_n 0, 1) := by decide +kernel
theorem k34_69 : decode (mB 34) 69 = .ok (.getfield 31, 3) ∧ tF (mO 34) 31 = some (3, 2, 1, 1) := by decide +kernel
theorem k34_72 : decode (mB 34) 72 = .ok (.iload_n 2, 1) := by decide +kernel
theorem k34_73 : decode (mB 34) 73 = .ok (.iconst 1, 1) := by decide +kernel
theorem k34_74 : decode (mB 34) 74 = .ok (.isub, 1) := by decide +kernel
theorem k34_75 : decode (mB 34) 75 = .ok (.aaload, 1) := by decide +kernel
theorem k34_76 : decode (mB 34) 76 = .ok (.putfield 170, 3) ∧ tF (mO 34) 170 = some (1, 0, 1, 0) := by decide +kernel
theorem k34_79 : decode (mB 34) 79 = .ok (.return_, 1) ∧ mR 34 = none := by decide +kernel
-- 35: ChairPast$Foresight.stoolGives:([II)Z, locals 4
theorem l35 : mL 35 = 4 := by decide +kernel
theorem k35_0 : decode (mB 35) 0 = .ok (.iconst 0, 1) := by decide +kernel
theorem k35_1 : decode (mB 35) 1 = .ok (.istore_n 3, 1) := by decide +kernel
theorem k35_2 : decode (mB 35) 2 = .ok (.iload_n 3, 1) := by decide +kernel
theorem k35_3 : decode (mB 35) 3 = .ok (.aload_n 0, 1) := by decide +kernel
theorem k35_4 : decode (mB 35) 4 = .ok (.getfield 27, 3) ∧ tF (mO 35) 27 = some (3, 0, 1, 1) := by decide +kernel
theorem k35_7 : decode (mB 35) 7 = .ok (.getfield 88, 3) ∧ tF (mO 35) 88 = some (8, 7, 0, 0) := by decide +kernel
theorem k35_10 : decode (mB 35) 10 = .ok (.if_icmp .ge 24, 3) := by decide +kernel
theorem k35_13 : decode (mB 35) 13 = .ok (.aload_n 0, 1) := by decide +kernel
theorem k35_14 : decode (mB 35) 14 = .ok (.iload_n 3, 1) := by decide +kernel
theorem k35_15 : decode (mB 35) 15 = .ok (.invokevirtual 77, 3) ∧ tVn (mO 35) 77 = some 1 ∧ tV (mO 35) 77 3 = some 19 := by decide +kernel
theorem k35_18 : decode (mB 35) 18 = .ok (.aload_n 1, 1) := by decide +kernel
theorem k35_19 : decode (mB 35) 19 = .ok (.iload_n 2, 1) := by decide +kernel
theorem k35_20 : decode (mB 35) 20 = .ok (.iload_n 3, 1) := by decide +kernel
theorem k35_21 : decode (mB 35) 21 = .ok (.iadd, 1) := by decide +kernel
theorem k35_22 : decode (mB 35) 22 = .ok (.iaload, 1) := by decide +kernel
theorem k35_23 : decode (mB 35) 23 = .ok (.if_icmp .eq 5, 3) := by decide +kernel
theorem k35_26 : decode (mB 35) 26 = .ok (.iconst 0, 1) := by decide +kernel
theorem k35_27 : decode (mB 35) 27 = .ok (.ireturn, 1) ∧ mR 35 = (some .boolean) := by decide +kernel
theorem k35_28 : decode (mB 35) 28 = .ok (.iinc 3 1, 3) := by decide +kernel
theorem k35_31 : decode (mB 35) 31 = .ok (.goto (-29), 3) := by decide +kernel
theorem k35_34 : decode (mB 35) 34 = .ok (.iconst 1, 1) := by decide +kernel
theorem k35_35 : decode (mB 35) 35 = .ok (.ireturn, 1) ∧ mR 35 = (some .boolean) := by decide +kernel
-- 36: ChairPast$Foresight.chanceOfPeace:(III)I, locals 7
theorem l36 : mL 36 = 7 := by decide +kernel
theorem k36_0 : decode (mB 36) 0 = .ok (.aload_n 0, 1) := by decide +kernel
theorem k36_1 : decode (mB 36) 1 = .ok (.getfield 27, 3) ∧ tF (mO 36) 27 = some (3, 0, 1, 1) := by decide +kernel
theorem k36_4 : decode (mB 36) 4 = .ok (.aload_n 0, 1) := by decide +kernel
theorem k36_5 : decode (mB 36) 5 = .ok (.getfield 14, 3) ∧ tF (mO 36) 14 = some (3, 4, 1, 1) := by decide +kernel
theorem k36_8 : decode (mB 36) 8 = .ok (.invokevirtual 52, 3) ∧ tVn (mO 36) 52 = some 1 ∧ tV (mO 36) 52 8 = some 101 := by decide +kernel
theorem k36_11 : decode (mB 36) 11 = .ok (.iconst 0, 1) := by decide +kernel
theorem k36_12 : decode (mB 36) 12 = .ok (.istore 4, 2) := by decide +kernel
theorem k36_14 : decode (mB 36) 14 = .ok (.iconst 1, 1) := by decide +kernel
theorem k36_15 : decode (mB 36) 15 = .ok (.istore 5, 2) := by decide +kernel
theorem k36_17 : decode (mB 36) 17 = .ok (.iconst 0, 1) := by decide +kernel
theorem k36_18 : decode (mB 36) 18 = .ok (.istore 6, 2) := by decide +kernel
theorem k36_20 : decode (mB 36) 20 = .ok (.iload 6, 2) := by decide +kernel
theorem k36_22 : decode (mB 36) 22 = .ok (.aload_n 0, 1) := by decide +kernel
theorem k36_23 : decode (mB 36) 23 = .ok (.getfield 27, 3) ∧ tF (mO 36) 27 = some (3, 0, 1, 1) := by decide +kernel
theorem k36_26 : decode (mB 36) 26 = .ok (.getfield 100, 3) ∧ tF (mO 36) 100 = some (8, 6, 0, 0) := by decide +kernel
theorem k36_29 : decode (mB 36) 29 = .ok (.if_icmp .ge 16, 3) := by decide +kernel
theorem k36_32 : decode (mB 36) 32 = .ok (.iload 5, 2) := by decide +kernel
theorem k36_34 : decode (mB 36) 34 = .ok (.bipush 10, 2) := by decide +kernel
theorem k36_36 : decode (mB 36) 36 = .ok (.imul, 1) := by decide +kernel
theorem k36_37 : decode (mB 36) 37 = .ok (.istore 5, 2) := by decide +kernel
theorem k36_39 : decode (mB 36) 39 = .ok (.iinc 6 1, 3) := by decide +kernel
theorem k36_42 : decode (mB 36) 42 = .ok (.goto (-22), 3) := by decide +kernel
theorem k36_45 : decode (mB 36) 45 = .ok (.iconst 0, 1) := by decide +kernel
theorem k36_46 : decode (mB 36) 46 = .ok (.istore 6, 2) := by decide +kernel
theorem k36_48 : decode (mB 36) 48 = .ok (.iload 6, 2) := by decide +kernel
theorem k36_50 : decode (mB 36) 50 = .ok (.iconst 1, 1) := by decide +kernel
theorem k36_51 : decode (mB 36) 51 = .ok (.aload_n 0, 1) := by decide +kernel
theorem k36_52 : decode (mB 36) 52 = .ok (.getfield 27, 3) ∧ tF (mO 36) 27 = some (3, 0, 1, 1) := by decide +kernel
theorem k36_55 : decode (mB 36) 55 = .ok (.getfield 100, 3) ∧ tF (mO 36) 100 = some (8, 6, 0, 0) := by decide +kernel
theorem k36_58 : decode (mB 36) 58 = .ok (.ishl, 1) := by decide +kernel
theorem k36_59 : decode (mB 36) 59 = .ok (.if_icmp .ge 31, 3) := by decide +kernel
theorem k36_62 : decode (mB 36) 62 = .ok (.aload_n 0, 1) := by decide +kernel
theorem k36_63 : decode (mB 36) 63 = .ok (.iload 6, 2) := by decide +kernel
theorem k36_65 : decode (mB 36) 65 = .ok (.invokevirtual 174, 3) ∧ tVn (mO 36) 174 = some 1 ∧ tV (mO 36) 174 3 = some 37 := by decide +kernel
theorem k36_68 : decode (mB 36) 68 = .ok (.iload_n 1, 1) := by decide +kernel
theorem k36_69 : decode (mB 36) 69 = .ok (.if_icmp .lt 15, 3) := by decide +kernel
theorem k36_72 : decode (mB 36) 72 = .ok (.iload 4, 2) := by decide +kernel
theorem k36_74 : decode (mB 36) 74 = .ok (.aload_n 0, 1) := by decide +kernel
theorem k36_75 : decode (mB 36) 75 = .ok (.iload 6, 2) := by decide +kernel
theorem k36_77 : decode (mB 36) 77 = .ok (.iload_n 2, 1) := by decide +kernel
theorem k36_78 : decode (mB 36) 78 = .ok (.invokevirtual 177, 3) ∧ tVn (mO 36) 177 = some 2 ∧ tV (mO 36) 177 3 = some 38 := by decide +kernel
theorem k36_81 : decode (mB 36) 81 = .ok (.iadd, 1) := by decide +kernel
theorem k36_82 : decode (mB 36) 82 = .ok (.istore 4, 2) := by decide +kernel
theorem k36_84 : decode (mB 36) 84 = .ok (.iinc 6 1, 3) := by decide +kernel
theorem k36_87 : decode (mB 36) 87 = .ok (.goto (-39), 3) := by decide +kernel
theorem k36_90 : decode (mB 36) 90 = .ok (.iload 5, 2) := by decide +kernel
theorem k36_92 : decode (mB 36) 92 = .ok (.iload 4, 2) := by decide +kernel
theorem k36_94 : decode (mB 36) 94 = .ok (.invokestatic 180, 3) ∧ tM (mO 36) 180 = none ∧ tS (mO 36) 180 = some 39 := by decide +kernel
theorem k36_97 : decode (mB 36) 97 = .ok (.istore 6, 2) := by decide +kernel
theorem k36_99 : decode (mB 36) 99 = .ok (.iload_n 3, 1) := by decide +kernel
theorem k36_100 : decode (mB 36) 100 = .ok (.ifCond .ne 8, 3) := by decide +kernel
theorem k36_103 : decode (mB 36) 103 = .ok (.iload 4, 2) := by decide +kernel
theorem k36_105 : decode (mB 36) 105 = .ok (.goto 5, 3) := by decide +kernel
theorem k36_108 : decode (mB 36) 108 = .ok (.iload 5, 2) := by decide +kernel
theorem k36_110 : decode (mB 36) 110 = .ok (.iload 6, 2) := by decide +kernel
theorem k36_112 : decode (mB 36) 112 = .ok (.idiv, 1) := by decide +kernel
theorem k36_113 : decode (mB 36) 113 = .ok (.ireturn, 1) ∧ mR 36 = (some .int) := by decide +kernel
-- 37: ChairPast$Foresight.peaceIfRecaned:(I)I, locals 4
theorem l37 : mL 37 = 4 := by decide +kernel
theorem k37_0 : decode (mB 37) 0 = .ok (.aload_n 0, 1) := by decide +kernel
theorem k37_1 : decode (mB 37) 1 = .ok (.getfield 40, 3) ∧ tF (mO 37) 40 = some (3, 1, 1, 1) := by decide +kernel
theorem k37_4 : decode (mB 37) 4 = .ok (.aload_n 0, 1) := by decide +kernel
theorem k37_5 : decode (mB 37) 5 = .ok (.getfield 14, 3) ∧ tF (mO 37) 14 = some (3, 4, 1, 1) := by decide +kernel
theorem k37_8 : decode (mB 37) 8 = .ok (.invokevirtual 56, 3) ∧ tVn (mO 37) 56 = some 1 ∧ tV (mO 37) 56 8 = some 102 := by decide +kernel
theorem k37_11 : decode (mB 37) 11 = .ok (.iconst 0, 1) := by decide +kernel
theorem k37_12 : decode (mB 37) 12 = .ok (.istore_n 2, 1) := by decide +kernel
theorem k37_13 : decode (mB 37) 13 = .ok (.iload_n 2, 1) := by decide +kernel
theorem k37_14 : decode (mB 37) 14 = .ok (.aload_n 0, 1) := by decide +kernel
theorem k37_15 : decode (mB 37) 15 = .ok (.getfield 40, 3) ∧ tF (mO 37) 40 = some (3, 1, 1, 1) := by decide +kernel
theorem k37_18 : decode (mB 37) 18 = .ok (.getfield 100, 3) ∧ tF (mO 37) 100 = some (8, 6, 0, 0) := by decide +kernel
theorem k37_21 : decode (mB 37) 21 = .ok (.if_icmp .ge 31, 3) := by decide +kernel
theorem k37_24 : decode (mB 37) 24 = .ok (.iload_n 1, 1) := by decide +kernel
theorem k37_25 : decode (mB 37) 25 = .ok (.iload_n 2, 1) := by decide +kernel
theorem k37_26 : decode (mB 37) 26 = .ok (.ishr, 1) := by decide +kernel
theorem k37_27 : decode (mB 37) 27 = .ok (.iconst 1, 1) := by decide +kernel
theorem k37_28 : decode (mB 37) 28 = .ok (.iand, 1) := by decide +kernel
theorem k37_29 : decode (mB 37) 29 = .ok (.iconst 1, 1) := by decide +kernel
theorem k37_30 : decode (mB 37) 30 = .ok (.if_icmp .ne 16, 3) := by decide +kernel
theorem k37_33 : decode (mB 37) 33 = .ok (.aload_n 0, 1) := by decide +kernel
theorem k37_34 : decode (mB 37) 34 = .ok (.getfield 40, 3) ∧ tF (mO 37) 40 = some (3, 1, 1, 1) := by decide +kernel
theorem k37_37 : decode (mB 37) 37 = .ok (.getfield 69, 3) ∧ tF (mO 37) 69 = some (8, 1, 1, 1) := by decide +kernel
theorem k37_40 : decode (mB 37) 40 = .ok (.iload_n 2, 1) := by decide +kernel
theorem k37_41 : decode (mB 37) 41 = .ok (.aaload, 1) := by decide +kernel
theorem k37_42 : decode (mB 37) 42 = .ok (.iconst 0, 1) := by decide +kernel
theorem k37_43 : decode (mB 37) 43 = .ok (.putfield 85, 3) ∧ tF (mO 37) 85 = some (1, 2, 0, 0) := by decide +kernel
theorem k37_46 : decode (mB 37) 46 = .ok (.iinc 2 1, 3) := by decide +kernel
theorem k37_49 : decode (mB 37) 49 = .ok (.goto (-36), 3) := by decide +kernel
theorem k37_52 : decode (mB 37) 52 = .ok (.iconst 0, 1) := by decide +kernel
theorem k37_53 : decode (mB 37) 53 = .ok (.istore_n 2, 1) := by decide +kernel
theorem k37_54 : decode (mB 37) 54 = .ok (.iload_n 2, 1) := by decide +kernel
theorem k37_55 : decode (mB 37) 55 = .ok (.aload_n 0, 1) := by decide +kernel
theorem k37_56 : decode (mB 37) 56 = .ok (.getfield 40, 3) ∧ tF (mO 37) 40 = some (3, 1, 1, 1) := by decide +kernel
theorem k37_59 : decode (mB 37) 59 = .ok (.getfield 88, 3) ∧ tF (mO 37) 88 = some (8, 7, 0, 0) := by decide +kernel
theorem k37_62 : decode (mB 37) 62 = .ok (.if_icmp .ge 43, 3) := by decide +kernel
theorem k37_65 : decode (mB 37) 65 = .ok (.aload_n 0, 1) := by decide +kernel
theorem k37_66 : decode (mB 37) 66 = .ok (.getfield 40, 3) ∧ tF (mO 37) 40 = some (3, 1, 1, 1) := by decide +kernel
theorem k37_69 : decode (mB 37) 69 = .ok (.invokevirtual 183, 3) ∧ tVn (mO 37) 183 = some 0 ∧ tV (mO 37) 183 8 = some 97 := by decide +kernel
theorem k37_72 : decode (mB 37) 72 = .ok (.istore_n 3, 1) := by decide +kernel
theorem k37_73 : decode (mB 37) 73 = .ok (.iload_n 3, 1) := by decide +kernel
theorem k37_74 : decode (mB 37) 74 = .ok (.ldc 106, 2) ∧ tK (mO 37) 106 = some (-1000000) := by decide +kernel
theorem k37_76 : decode (mB 37) 76 = .ok (.if_icmp .eq 23, 3) := by decide +kernel
theorem k37_79 : decode (mB 37) 79 = .ok (.aload_n 0, 1) := by decide +kernel
theorem k37_80 : decode (mB 37) 80 = .ok (.getfield 40, 3) ∧ tF (mO 37) 40 = some (3, 1, 1, 1) := by decide +kernel
theorem k37_83 : decode (mB 37) 83 = .ok (.iload_n 2, 1) := by decide +kernel
theorem k37_84 : decode (mB 37) 84 = .ok (.invokevirtual 119, 3) ∧ tVn (mO 37) 119 = some 1 ∧ tV (mO 37) 119 8 = some 86 := by decide +kernel
theorem k37_87 : decode (mB 37) 87 = .ok (.ifCond .ne 12, 3) := by decide +kernel
theorem k37_90 : decode (mB 37) 90 = .ok (.aload_n 0, 1) := by decide +kernel
theorem k37_91 : decode (mB 37) 91 = .ok (.getfield 40, 3) ∧ tF (mO 37) 40 = some (3, 1, 1, 1) := by decide +kernel
theorem k37_94 : decode (mB 37) 94 = .ok (.iload_n 2, 1) := by decide +kernel
theorem k37_95 : decode (mB 37) 95 = .ok (.iload_n 3, 1) := by decide +kernel
theorem k37_96 : decode (mB 37) 96 = .ok (.invokevirtual 186, 3) ∧ tVn (mO 37) 186 = some 2 ∧ tV (mO 37) 186 8 = some 88 := by decide +kernel
theorem k37_99 : decode (mB 37) 99 = .ok (.iinc 2 1, 3) := by decide +kernel
theorem k37_102 : decode (mB 37) 102 = .ok (.goto (-48), 3) := by decide +kernel
theorem k37_105 : decode (mB 37) 105 = .ok (.aload_n 0, 1) := by decide +kernel
theorem k37_106 : decode (mB 37) 106 = .ok (.getfield 40, 3) ∧ tF (mO 37) 40 = some (3, 1, 1, 1) := by decide +kernel
theorem k37_109 : decode (mB 37) 109 = .ok (.invokevirtual 136, 3) ∧ tVn (mO 37) 136 = some 0 ∧ tV (mO 37) 136 8 = some 92 := by decide +kernel
theorem k37_112 : decode (mB 37) 112 = .ok (.ireturn, 1) ∧ mR 37 = (some .int) := by decide +kernel
-- 38: ChairPast$Foresight.weightOf:(II)I, locals 5
theorem l38 : mL 38 = 5 := by decide +kernel
theorem k38_0 : decode (mB 38) 0 = .ok (.iconst 1, 1) := by decide +kernel
theorem k38_1 : decode (mB 38) 1 = .ok (.istore_n 3, 1) := by decide +kernel
theorem k38_2 : decode (mB 38) 2 = .ok (.iconst 0, 1) := by decide +kernel
theorem k38_3 : decode (mB 38) 3 = .ok (.istore 4, 2) := by decide +kernel
theorem k38_5 : decode (mB 38) 5 = .ok (.iload 4, 2) := by decide +kernel
theorem k38_7 : decode (mB 38) 7 = .ok (.aload_n 0, 1) := by decide +kernel
theorem k38_8 : decode (mB 38) 8 = .ok (.getfield 27, 3) ∧ tF (mO 38) 27 = some (3, 0, 1, 1) := by decide +kernel
theorem k38_11 : decode (mB 38) 11 = .ok (.getfield 100, 3) ∧ tF (mO 38) 100 = some (8, 6, 0, 0) := by decide +kernel
theorem k38_14 : decode (mB 38) 14 = .ok (.if_icmp .ge 30, 3) := by decide +kernel
theorem k38_17 : decode (mB 38) 17 = .ok (.iload_n 3, 1) := by decide +kernel
theorem k38_18 : decode (mB 38) 18 = .ok (.iload_n 1, 1) := by decide +kernel
theorem k38_19 : decode (mB 38) 19 = .ok (.iload 4, 2) := by decide +kernel
theorem k38_21 : decode (mB 38) 21 = .ok (.ishr, 1) := by decide +kernel
theorem k38_22 : decode (mB 38) 22 = .ok (.iconst 1, 1) := by decide +kernel
theorem k38_23 : decode (mB 38) 23 = .ok (.iand, 1) := by decide +kernel
theorem k38_24 : decode (mB 38) 24 = .ok (.iconst 1, 1) := by decide +kernel
theorem k38_25 : decode (mB 38) 25 = .ok (.if_icmp .ne 7, 3) := by decide +kernel
theorem k38_28 : decode (mB 38) 28 = .ok (.iload_n 2, 1) := by decide +kernel
theorem k38_29 : decode (mB 38) 29 = .ok (.goto 7, 3) := by decide +kernel
theorem k38_32 : decode (mB 38) 32 = .ok (.bipush 10, 2) := by decide +kernel
theorem k38_34 : decode (mB 38) 34 = .ok (.iload_n 2, 1) := by decide +kernel
theorem k38_35 : decode (mB 38) 35 = .ok (.isub, 1) := by decide +kernel
theorem k38_36 : decode (mB 38) 36 = .ok (.imul, 1) := by decide +kernel
theorem k38_37 : decode (mB 38) 37 = .ok (.istore_n 3, 1) := by decide +kernel
theorem k38_38 : decode (mB 38) 38 = .ok (.iinc 4 1, 3) := by decide +kernel
theorem k38_41 : decode (mB 38) 41 = .ok (.goto (-36), 3) := by decide +kernel
theorem k38_44 : decode (mB 38) 44 = .ok (.iload_n 3, 1) := by decide +kernel
theorem k38_45 : decode (mB 38) 45 = .ok (.ireturn, 1) ∧ mR 38 = (some .int) := by decide +kernel
