-- 39: ChairPast$Foresight.commonDivisor:(II)I, locals 6
theorem l39 : mL 39 = 6 := by decide +kernel
theorem k39_0 : decode (mB 39) 0 = .ok (.iload_n 0, 1) := by decide +kernel
theorem k39_1 : decode (mB 39) 1 = .ok (.iconst 1, 1) := by decide +kernel
theorem k39_2 : decode (mB 39) 2 = .ok (.invokestatic 150, 3) ∧ tM (mO 39) 150 = some 3 := by decide +kernel
theorem k39_5 : decode (mB 39) 5 = .ok (.istore_n 2, 1) := by decide +kernel
theorem k39_6 : decode (mB 39) 6 = .ok (.iload_n 1, 1) := by decide +kernel
theorem k39_7 : decode (mB 39) 7 = .ok (.istore_n 3, 1) := by decide +kernel
theorem k39_8 : decode (mB 39) 8 = .ok (.iconst 0, 1) := by decide +kernel
theorem k39_9 : decode (mB 39) 9 = .ok (.istore 4, 2) := by decide +kernel
theorem k39_11 : decode (mB 39) 11 = .ok (.iload 4, 2) := by decide +kernel
theorem k39_13 : decode (mB 39) 13 = .ok (.bipush 100, 2) := by decide +kernel
theorem k39_15 : decode (mB 39) 15 = .ok (.if_icmp .ge 23, 3) := by decide +kernel
theorem k39_18 : decode (mB 39) 18 = .ok (.iload_n 3, 1) := by decide +kernel
theorem k39_19 : decode (mB 39) 19 = .ok (.ifCond .le 19, 3) := by decide +kernel
theorem k39_22 : decode (mB 39) 22 = .ok (.iload_n 2, 1) := by decide +kernel
theorem k39_23 : decode (mB 39) 23 = .ok (.iload_n 3, 1) := by decide +kernel
theorem k39_24 : decode (mB 39) 24 = .ok (.irem, 1) := by decide +kernel
theorem k39_25 : decode (mB 39) 25 = .ok (.istore 5, 2) := by decide +kernel
theorem k39_27 : decode (mB 39) 27 = .ok (.iload_n 3, 1) := by decide +kernel
theorem k39_28 : decode (mB 39) 28 = .ok (.istore_n 2, 1) := by decide +kernel
theorem k39_29 : decode (mB 39) 29 = .ok (.iload 5, 2) := by decide +kernel
theorem k39_31 : decode (mB 39) 31 = .ok (.istore_n 3, 1) := by decide +kernel
theorem k39_32 : decode (mB 39) 32 = .ok (.iinc 4 1, 3) := by decide +kernel
theorem k39_35 : decode (mB 39) 35 = .ok (.goto (-24), 3) := by decide +kernel
theorem k39_38 : decode (mB 39) 38 = .ok (.iload_n 2, 1) := by decide +kernel
theorem k39_39 : decode (mB 39) 39 = .ok (.ireturn, 1) ∧ mR 39 = (some .int) := by decide +kernel
-- 40: ChairPast$Foresight.eveningOf:(III)I, locals 8
theorem l40 : mL 40 = 8 := by decide +kernel
theorem k40_0 : decode (mB 40) 0 = .ok (.aload_n 0, 1) := by decide +kernel
theorem k40_1 : decode (mB 40) 1 = .ok (.invokevirtual 107, 3) ∧ tVn (mO 40) 107 = some 0 ∧ tV (mO 40) 107 3 = some 18 := by decide +kernel
theorem k40_4 : decode (mB 40) 4 = .ok (.iconst 0, 1) := by decide +kernel
theorem k40_5 : decode (mB 40) 5 = .ok (.istore 4, 2) := by decide +kernel
theorem k40_7 : decode (mB 40) 7 = .ok (.iload_n 2, 1) := by decide +kernel
theorem k40_8 : decode (mB 40) 8 = .ok (.i2l, 1) := by decide +kernel
theorem k40_9 : decode (mB 40) 9 = .ok (.lstore 5, 2) := by decide +kernel
theorem k40_11 : decode (mB 40) 11 = .ok (.iconst 0, 1) := by decide +kernel
theorem k40_12 : decode (mB 40) 12 = .ok (.istore 7, 2) := by decide +kernel
theorem k40_14 : decode (mB 40) 14 = .ok (.iload 7, 2) := by decide +kernel
theorem k40_16 : decode (mB 40) 16 = .ok (.iload_n 1, 1) := by decide +kernel
theorem k40_17 : decode (mB 40) 17 = .ok (.if_icmp .ge 32, 3) := by decide +kernel
theorem k40_20 : decode (mB 40) 20 = .ok (.lload 5, 2) := by decide +kernel
theorem k40_22 : decode (mB 40) 22 = .ok (.ldc2_w 189, 3) ∧ tKK (mO 40) 189 = some (16807) := by decide +kernel
theorem k40_25 : decode (mB 40) 25 = .ok (.lmul, 1) := by decide +kernel
theorem k40_26 : decode (mB 40) 26 = .ok (.ldc2_w 191, 3) ∧ tKK (mO 40) 191 = some (2147483647) := by decide +kernel
theorem k40_29 : decode (mB 40) 29 = .ok (.lrem, 1) := by decide +kernel
theorem k40_30 : decode (mB 40) 30 = .ok (.lstore 5, 2) := by decide +kernel
theorem k40_32 : decode (mB 40) 32 = .ok (.iload 4, 2) := by decide +kernel
theorem k40_34 : decode (mB 40) 34 = .ok (.aload_n 0, 1) := by decide +kernel
theorem k40_35 : decode (mB 40) 35 = .ok (.lload 5, 2) := by decide +kernel
theorem k40_37 : decode (mB 40) 37 = .ok (.invokevirtual 193, 3) ∧ tVn (mO 40) 193 = some 1 ∧ tV (mO 40) 193 3 = some 41 := by decide +kernel
theorem k40_40 : decode (mB 40) 40 = .ok (.iadd, 1) := by decide +kernel
theorem k40_41 : decode (mB 40) 41 = .ok (.istore 4, 2) := by decide +kernel
theorem k40_43 : decode (mB 40) 43 = .ok (.iinc 7 1, 3) := by decide +kernel
theorem k40_46 : decode (mB 40) 46 = .ok (.goto (-32), 3) := by decide +kernel
theorem k40_49 : decode (mB 40) 49 = .ok (.iload_n 3, 1) := by decide +kernel
theorem k40_50 : decode (mB 40) 50 = .ok (.ifCond .ne 8, 3) := by decide +kernel
theorem k40_53 : decode (mB 40) 53 = .ok (.iload 4, 2) := by decide +kernel
theorem k40_55 : decode (mB 40) 55 = .ok (.goto 10, 3) := by decide +kernel
theorem k40_58 : decode (mB 40) 58 = .ok (.aload_n 0, 1) := by decide +kernel
theorem k40_59 : decode (mB 40) 59 = .ok (.getfield 40, 3) ∧ tF (mO 40) 40 = some (3, 1, 1, 1) := by decide +kernel
theorem k40_62 : decode (mB 40) 62 = .ok (.invokevirtual 197, 3) ∧ tVn (mO 40) 197 = some 0 ∧ tV (mO 40) 197 8 = some 100 := by decide +kernel
theorem k40_65 : decode (mB 40) 65 = .ok (.ireturn, 1) ∧ mR 40 = (some .int) := by decide +kernel
-- 41: ChairPast$Foresight.drawnBearing:(J)I, locals 5
theorem l41 : mL 41 = 5 := by decide +kernel
theorem k41_0 : decode (mB 41) 0 = .ok (.aload_n 0, 1) := by decide +kernel
theorem k41_1 : decode (mB 41) 1 = .ok (.getfield 40, 3) ∧ tF (mO 41) 40 = some (3, 1, 1, 1) := by decide +kernel
theorem k41_4 : decode (mB 41) 4 = .ok (.getfield 88, 3) ∧ tF (mO 41) 88 = some (8, 7, 0, 0) := by decide +kernel
theorem k41_7 : decode (mB 41) 7 = .ok (.ifCond .eq 13, 3) := by decide +kernel
theorem k41_10 : decode (mB 41) 10 = .ok (.aload_n 0, 1) := by decide +kernel
theorem k41_11 : decode (mB 41) 11 = .ok (.getfield 40, 3) ∧ tF (mO 41) 40 = some (3, 1, 1, 1) := by decide +kernel
theorem k41_14 : decode (mB 41) 14 = .ok (.getfield 100, 3) ∧ tF (mO 41) 100 = some (8, 6, 0, 0) := by decide +kernel
theorem k41_17 : decode (mB 41) 17 = .ok (.ifCond .ne 5, 3) := by decide +kernel
theorem k41_20 : decode (mB 41) 20 = .ok (.iconst 0, 1) := by decide +kernel
theorem k41_21 : decode (mB 41) 21 = .ok (.ireturn, 1) ∧ mR 41 = (some .int) := by decide +kernel
theorem k41_22 : decode (mB 41) 22 = .ok (.lload_n 1, 1) := by decide +kernel
theorem k41_23 : decode (mB 41) 23 = .ok (.aload_n 0, 1) := by decide +kernel
theorem k41_24 : decode (mB 41) 24 = .ok (.getfield 40, 3) ∧ tF (mO 41) 40 = some (3, 1, 1, 1) := by decide +kernel
theorem k41_27 : decode (mB 41) 27 = .ok (.getfield 88, 3) ∧ tF (mO 41) 88 = some (8, 7, 0, 0) := by decide +kernel
theorem k41_30 : decode (mB 41) 30 = .ok (.i2l, 1) := by decide +kernel
theorem k41_31 : decode (mB 41) 31 = .ok (.lrem, 1) := by decide +kernel
theorem k41_32 : decode (mB 41) 32 = .ok (.l2i, 1) := by decide +kernel
theorem k41_33 : decode (mB 41) 33 = .ok (.istore_n 3, 1) := by decide +kernel
theorem k41_34 : decode (mB 41) 34 = .ok (.lload_n 1, 1) := by decide +kernel
theorem k41_35 : decode (mB 41) 35 = .ok (.aload_n 0, 1) := by decide +kernel
theorem k41_36 : decode (mB 41) 36 = .ok (.getfield 40, 3) ∧ tF (mO 41) 40 = some (3, 1, 1, 1) := by decide +kernel
theorem k41_39 : decode (mB 41) 39 = .ok (.getfield 100, 3) ∧ tF (mO 41) 100 = some (8, 6, 0, 0) := by decide +kernel
theorem k41_42 : decode (mB 41) 42 = .ok (.i2l, 1) := by decide +kernel
theorem k41_43 : decode (mB 41) 43 = .ok (.lrem, 1) := by decide +kernel
theorem k41_44 : decode (mB 41) 44 = .ok (.l2i, 1) := by decide +kernel
theorem k41_45 : decode (mB 41) 45 = .ok (.istore 4, 2) := by decide +kernel
theorem k41_47 : decode (mB 41) 47 = .ok (.aload_n 0, 1) := by decide +kernel
theorem k41_48 : decode (mB 41) 48 = .ok (.getfield 40, 3) ∧ tF (mO 41) 40 = some (3, 1, 1, 1) := by decide +kernel
theorem k41_51 : decode (mB 41) 51 = .ok (.getfield 69, 3) ∧ tF (mO 41) 69 = some (8, 1, 1, 1) := by decide +kernel
theorem k41_54 : decode (mB 41) 54 = .ok (.iload 4, 2) := by decide +kernel
theorem k41_56 : decode (mB 41) 56 = .ok (.aaload, 1) := by decide +kernel
theorem k41_57 : decode (mB 41) 57 = .ok (.aload_n 0, 1) := by decide +kernel
theorem k41_58 : decode (mB 41) 58 = .ok (.getfield 40, 3) ∧ tF (mO 41) 40 = some (3, 1, 1, 1) := by decide +kernel
theorem k41_61 : decode (mB 41) 61 = .ok (.getfield 59, 3) ∧ tF (mO 41) 59 = some (8, 2, 1, 1) := by decide +kernel
theorem k41_64 : decode (mB 41) 64 = .ok (.iload_n 3, 1) := by decide +kernel
theorem k41_65 : decode (mB 41) 65 = .ok (.iaload, 1) := by decide +kernel
theorem k41_66 : decode (mB 41) 66 = .ok (.aload_n 0, 1) := by decide +kernel
theorem k41_67 : decode (mB 41) 67 = .ok (.getfield 40, 3) ∧ tF (mO 41) 40 = some (3, 1, 1, 1) := by decide +kernel
theorem k41_70 : decode (mB 41) 70 = .ok (.getfield 62, 3) ∧ tF (mO 41) 62 = some (8, 3, 1, 1) := by decide +kernel
theorem k41_73 : decode (mB 41) 73 = .ok (.iload_n 3, 1) := by decide +kernel
theorem k41_74 : decode (mB 41) 74 = .ok (.iaload, 1) := by decide +kernel
theorem k41_75 : decode (mB 41) 75 = .ok (.invokevirtual 65, 3) ∧ tVn (mO 41) 65 = some 2 ∧ tV (mO 41) 65 1 = some 8 := by decide +kernel
theorem k41_78 : decode (mB 41) 78 = .ok (.ireturn, 1) ∧ mR 41 = (some .int) := by decide +kernel
-- 43: ChairPast$Kind.sizeOf:(LChairPast$Chair;LChairPast$Line;)I, locals 3
theorem l43 : mL 43 = 3 := by decide +kernel
theorem k43_0 : decode (mB 43) 0 = .ok (.aload_n 2, 1) := by decide +kernel
theorem k43_1 : decode (mB 43) 1 = .ok (.bipush 10, 2) := by decide +kernel
theorem k43_3 : decode (mB 43) 3 = .ok (.invokevirtual 7, 3) ∧ tVn (mO 43) 7 = some 1 ∧ tV (mO 43) 7 4 = some 47 := by decide +kernel
theorem k43_6 : decode (mB 43) 6 = .ok (.pop, 1) := by decide +kernel
theorem k43_7 : decode (mB 43) 7 = .ok (.aload_n 1, 1) := by decide +kernel
theorem k43_8 : decode (mB 43) 8 = .ok (.getfield 13, 3) ∧ tF (mO 43) 13 = some (1, 3, 0, 0) := by decide +kernel
theorem k43_11 : decode (mB 43) 11 = .ok (.ireturn, 1) ∧ mR 43 = (some .int) := by decide +kernel
-- 44: ChairPast$Kind.markOf:(LChairPast$Chair;LChairPast$Line;)I, locals 3
theorem l44 : mL 44 = 3 := by decide +kernel
theorem k44_0 : decode (mB 44) 0 = .ok (.aload_n 2, 1) := by decide +kernel
theorem k44_1 : decode (mB 44) 1 = .ok (.bipush 20, 2) := by decide +kernel
theorem k44_3 : decode (mB 44) 3 = .ok (.invokevirtual 7, 3) ∧ tVn (mO 44) 7 = some 1 ∧ tV (mO 44) 7 4 = some 47 := by decide +kernel
theorem k44_6 : decode (mB 44) 6 = .ok (.pop, 1) := by decide +kernel
theorem k44_7 : decode (mB 44) 7 = .ok (.aload_n 1, 1) := by decide +kernel
theorem k44_8 : decode (mB 44) 8 = .ok (.getfield 19, 3) ∧ tF (mO 44) 19 = some (1, 1, 0, 0) := by decide +kernel
theorem k44_11 : decode (mB 44) 11 = .ok (.ireturn, 1) ∧ mR 44 = (some .int) := by decide +kernel
-- 46: ChairPast$Line.clear:()V, locals 1
theorem l46 : mL 46 = 1 := by decide +kernel
theorem k46_0 : decode (mB 46) 0 = .ok (.aload_n 0, 1) := by decide +kernel
theorem k46_1 : decode (mB 46) 1 = .ok (.iconst 0, 1) := by decide +kernel
theorem k46_2 : decode (mB 46) 2 = .ok (.putfield 21, 3) ∧ tF (mO 46) 21 = some (4, 1, 0, 0) := by decide +kernel
theorem k46_5 : decode (mB 46) 5 = .ok (.aload_n 0, 1) := by decide +kernel
theorem k46_6 : decode (mB 46) 6 = .ok (.iconst 0, 1) := by decide +kernel
theorem k46_7 : decode (mB 46) 7 = .ok (.putfield 25, 3) ∧ tF (mO 46) 25 = some (4, 2, 0, 0) := by decide +kernel
theorem k46_10 : decode (mB 46) 10 = .ok (.return_, 1) ∧ mR 46 = none := by decide +kernel
-- 47: ChairPast$Line.push:(I)Z, locals 2
theorem l47 : mL 47 = 2 := by decide +kernel
theorem k47_0 : decode (mB 47) 0 = .ok (.aload_n 0, 1) := by decide +kernel
theorem k47_1 : decode (mB 47) 1 = .ok (.getfield 21, 3) ∧ tF (mO 47) 21 = some (4, 1, 0, 0) := by decide +kernel
theorem k47_4 : decode (mB 47) 4 = .ok (.aload_n 0, 1) := by decide +kernel
theorem k47_5 : decode (mB 47) 5 = .ok (.getfield 15, 3) ∧ tF (mO 47) 15 = some (4, 0, 1, 1) := by decide +kernel
theorem k47_8 : decode (mB 47) 8 = .ok (.arraylength, 1) := by decide +kernel
theorem k47_9 : decode (mB 47) 9 = .ok (.if_icmp .lt 5, 3) := by decide +kernel
theorem k47_12 : decode (mB 47) 12 = .ok (.iconst 0, 1) := by decide +kernel
theorem k47_13 : decode (mB 47) 13 = .ok (.ireturn, 1) ∧ mR 47 = (some .boolean) := by decide +kernel
theorem k47_14 : decode (mB 47) 14 = .ok (.aload_n 0, 1) := by decide +kernel
theorem k47_15 : decode (mB 47) 15 = .ok (.getfield 15, 3) ∧ tF (mO 47) 15 = some (4, 0, 1, 1) := by decide +kernel
theorem k47_18 : decode (mB 47) 18 = .ok (.aload_n 0, 1) := by decide +kernel
theorem k47_19 : decode (mB 47) 19 = .ok (.getfield 21, 3) ∧ tF (mO 47) 21 = some (4, 1, 0, 0) := by decide +kernel
theorem k47_22 : decode (mB 47) 22 = .ok (.iload_n 1, 1) := by decide +kernel
theorem k47_23 : decode (mB 47) 23 = .ok (.iastore, 1) := by decide +kernel
theorem k47_24 : decode (mB 47) 24 = .ok (.aload_n 0, 1) := by decide +kernel
theorem k47_25 : decode (mB 47) 25 = .ok (.dup, 1) := by decide +kernel
theorem k47_26 : decode (mB 47) 26 = .ok (.getfield 21, 3) ∧ tF (mO 47) 21 = some (4, 1, 0, 0) := by decide +kernel
theorem k47_29 : decode (mB 47) 29 = .ok (.iconst 1, 1) := by decide +kernel
theorem k47_30 : decode (mB 47) 30 = .ok (.iadd, 1) := by decide +kernel
theorem k47_31 : decode (mB 47) 31 = .ok (.putfield 21, 3) ∧ tF (mO 47) 21 = some (4, 1, 0, 0) := by decide +kernel
theorem k47_34 : decode (mB 47) 34 = .ok (.iconst 1, 1) := by decide +kernel
theorem k47_35 : decode (mB 47) 35 = .ok (.ireturn, 1) ∧ mR 47 = (some .boolean) := by decide +kernel
-- 48: ChairPast$Line.numberAt:(I)I, locals 2
theorem l48 : mL 48 = 2 := by decide +kernel
theorem k48_0 : decode (mB 48) 0 = .ok (.iload_n 1, 1) := by decide +kernel
theorem k48_1 : decode (mB 48) 1 = .ok (.ifCond .lt 20, 3) := by decide +kernel
theorem k48_4 : decode (mB 48) 4 = .ok (.iload_n 1, 1) := by decide +kernel
theorem k48_5 : decode (mB 48) 5 = .ok (.aload_n 0, 1) := by decide +kernel
theorem k48_6 : decode (mB 48) 6 = .ok (.getfield 21, 3) ∧ tF (mO 48) 21 = some (4, 1, 0, 0) := by decide +kernel
theorem k48_9 : decode (mB 48) 9 = .ok (.if_icmp .ge 12, 3) := by decide +kernel
theorem k48_12 : decode (mB 48) 12 = .ok (.aload_n 0, 1) := by decide +kernel
theorem k48_13 : decode (mB 48) 13 = .ok (.getfield 15, 3) ∧ tF (mO 48) 15 = some (4, 0, 1, 1) := by decide +kernel
theorem k48_16 : decode (mB 48) 16 = .ok (.iload_n 1, 1) := by decide +kernel
theorem k48_17 : decode (mB 48) 17 = .ok (.iaload, 1) := by decide +kernel
theorem k48_18 : decode (mB 48) 18 = .ok (.goto 5, 3) := by decide +kernel
theorem k48_21 : decode (mB 48) 21 = .ok (.ldc 28, 2) ∧ tK (mO 48) 28 = some (-1000000) := by decide +kernel
theorem k48_23 : decode (mB 48) 23 = .ok (.ireturn, 1) ∧ mR 48 = (some .int) := by decide +kernel
-- 49: ChairPast$Line.holds:(II)Z, locals 3
theorem l49 : mL 49 = 3 := by decide +kernel
theorem k49_0 : decode (mB 49) 0 = .ok (.iload_n 1, 1) := by decide +kernel
theorem k49_1 : decode (mB 49) 1 = .ok (.ifCond .lt 29, 3) := by decide +kernel
theorem k49_4 : decode (mB 49) 4 = .ok (.iload_n 2, 1) := by decide +kernel
theorem k49_5 : decode (mB 49) 5 = .ok (.ifCond .lt 25, 3) := by decide +kernel
theorem k49_8 : decode (mB 49) 8 = .ok (.iload_n 1, 1) := by decide +kernel
theorem k49_9 : decode (mB 49) 9 = .ok (.aload_n 0, 1) := by decide +kernel
theorem k49_10 : decode (mB 49) 10 = .ok (.getfield 21, 3) ∧ tF (mO 49) 21 = some (4, 1, 0, 0) := by decide +kernel
theorem k49_13 : decode (mB 49) 13 = .ok (.if_icmp .gt 17, 3) := by decide +kernel
theorem k49_16 : decode (mB 49) 16 = .ok (.iload_n 2, 1) := by decide +kernel
theorem k49_17 : decode (mB 49) 17 = .ok (.aload_n 0, 1) := by decide +kernel
theorem k49_18 : decode (mB 49) 18 = .ok (.getfield 21, 3) ∧ tF (mO 49) 21 = some (4, 1, 0, 0) := by decide +kernel
theorem k49_21 : decode (mB 49) 21 = .ok (.iload_n 1, 1) := by decide +kernel
theorem k49_22 : decode (mB 49) 22 = .ok (.isub, 1) := by decide +kernel
theorem k49_23 : decode (mB 49) 23 = .ok (.if_icmp .gt 7, 3) := by decide +kernel
theorem k49_26 : decode (mB 49) 26 = .ok (.iconst 1, 1) := by decide +kernel
theorem k49_27 : decode (mB 49) 27 = .ok (.goto 4, 3) := by decide +kernel
theorem k49_30 : decode (mB 49) 30 = .ok (.iconst 0, 1) := by decide +kernel
theorem k49_31 : decode (mB 49) 31 = .ok (.ireturn, 1) ∧ mR 49 = (some .boolean) := by decide +kernel
-- 50: ChairPast$Line.rewind:()V, locals 1
theorem l50 : mL 50 = 1 := by decide +kernel
theorem k50_0 : decode (mB 50) 0 = .ok (.aload_n 0, 1) := by decide +kernel
theorem k50_1 : decode (mB 50) 1 = .ok (.iconst 0, 1) := by decide +kernel
theorem k50_2 : decode (mB 50) 2 = .ok (.putfield 25, 3) ∧ tF (mO 50) 25 = some (4, 2, 0, 0) := by decide +kernel
theorem k50_5 : decode (mB 50) 5 = .ok (.return_, 1) ∧ mR 50 = none := by decide +kernel
-- 51: ChairPast$Line.next:()I, locals 1
theorem l51 : mL 51 = 1 := by decide +kernel
theorem k51_0 : decode (mB 51) 0 = .ok (.aload_n 0, 1) := by decide +kernel
theorem k51_1 : decode (mB 51) 1 = .ok (.getfield 25, 3) ∧ tF (mO 51) 25 = some (4, 2, 0, 0) := by decide +kernel
theorem k51_4 : decode (mB 51) 4 = .ok (.aload_n 0, 1) := by decide +kernel
theorem k51_5 : decode (mB 51) 5 = .ok (.getfield 21, 3) ∧ tF (mO 51) 21 = some (4, 1, 0, 0) := by decide +kernel
theorem k51_8 : decode (mB 51) 8 = .ok (.if_icmp .lt 6, 3) := by decide +kernel
theorem k51_11 : decode (mB 51) 11 = .ok (.ldc 28, 2) ∧ tK (mO 51) 28 = some (-1000000) := by decide +kernel
theorem k51_13 : decode (mB 51) 13 = .ok (.ireturn, 1) ∧ mR 51 = (some .int) := by decide +kernel
theorem k51_14 : decode (mB 51) 14 = .ok (.aload_n 0, 1) := by decide +kernel
theorem k51_15 : decode (mB 51) 15 = .ok (.dup, 1) := by decide +kernel
theorem k51_16 : decode (mB 51) 16 = .ok (.getfield 25, 3) ∧ tF (mO 51) 25 = some (4, 2, 0, 0) := by decide +kernel
theorem k51_19 : decode (mB 51) 19 = .ok (.iconst 1, 1) := by decide +kernel
theorem k51_20 : decode (mB 51) 20 = .ok (.iadd, 1) := by decide +kernel
theorem k51_21 : decode (mB 51) 21 = .ok (.putfield 25, 3) ∧ tF (mO 51) 25 = some (4, 2, 0, 0) := by decide +kernel
theorem k51_24 : decode (mB 51) 24 = .ok (.aload_n 0, 1) := by decide +kernel
theorem k51_25 : decode (mB 51) 25 = .ok (.getfield 15, 3) ∧ tF (mO 51) 15 = some (4, 0, 1, 1) := by decide +kernel
theorem k51_28 : decode (mB 51) 28 = .ok (.aload_n 0, 1) := by decide +kernel
theorem k51_29 : decode (mB 51) 29 = .ok (.getfield 25, 3) ∧ tF (mO 51) 25 = some (4, 2, 0, 0) := by decide +kernel
theorem k51_32 : decode (mB 51) 32 = .ok (.iconst 1, 1) := by decide +kernel
theorem k51_33 : decode (mB 51) 33 = .ok (.isub, 1) := by decide +kernel
theorem k51_34 : decode (mB 51) 34 = .ok (.iaload, 1) := by decide +kernel
theorem k51_35 : decode (mB 51) 35 = .ok (.ireturn, 1) ∧ mR 51 = (some .int) := by decide +kernel
-- 53: ChairPast$Plain.number:()I, locals 1
theorem l53 : mL 53 = 1 := by decide +kernel
theorem k53_0 : decode (mB 53) 0 = .ok (.iconst 1, 1) := by decide +kernel
theorem k53_1 : decode (mB 53) 1 = .ok (.ireturn, 1) ∧ mR 53 = (some .int) := by decide +kernel
-- 54: ChairPast$Plain.bearingOn:(LChairPast$Chair;I)I, locals 3
theorem l54 : mL 54 = 3 := by decide +kernel
theorem k54_0 : decode (mB 54) 0 = .ok (.aload_n 1, 1) := by decide +kernel
theorem k54_1 : decode (mB 54) 1 = .ok (.getfield 9, 3) ∧ tF (mO 54) 9 = some (1, 1, 0, 0) := by decide +kernel
theorem k54_4 : decode (mB 54) 4 = .ok (.aload_n 1, 1) := by decide +kernel
theorem k54_5 : decode (mB 54) 5 = .ok (.getfield 15, 3) ∧ tF (mO 54) 15 = some (1, 2, 0, 0) := by decide +kernel
theorem k54_8 : decode (mB 54) 8 = .ok (.iload_n 2, 1) := by decide +kernel
theorem k54_9 : decode (mB 54) 9 = .ok (.invokestatic 18, 3) ∧ tM (mO 54) 18 = none ∧ tS (mO 54) 18 = some 58 := by decide +kernel
theorem k54_12 : decode (mB 54) 12 = .ok (.ireturn, 1) ∧ mR 54 = (some .int) := by decide +kernel
-- 55: ChairPast$Plain.wear:(LChairPast$Chair;)V, locals 2
theorem l55 : mL 55 = 2 := by decide +kernel
theorem k55_0 : decode (mB 55) 0 = .ok (.aload_n 1, 1) := by decide +kernel
theorem k55_1 : decode (mB 55) 1 = .ok (.dup, 1) := by decide +kernel
theorem k55_2 : decode (mB 55) 2 = .ok (.getfield 15, 3) ∧ tF (mO 55) 15 = some (1, 2, 0, 0) := by decide +kernel
theorem k55_5 : decode (mB 55) 5 = .ok (.aload_n 1, 1) := by decide +kernel
theorem k55_6 : decode (mB 55) 6 = .ok (.getfield 15, 3) ∧ tF (mO 55) 15 = some (1, 2, 0, 0) := by decide +kernel
theorem k55_9 : decode (mB 55) 9 = .ok (.iconst 3, 1) := by decide +kernel
theorem k55_10 : decode (mB 55) 10 = .ok (.iadd, 1) := by decide +kernel
theorem k55_11 : decode (mB 55) 11 = .ok (.iconst 4, 1) := by decide +kernel
theorem k55_12 : decode (mB 55) 12 = .ok (.idiv, 1) := by decide +kernel
theorem k55_13 : decode (mB 55) 13 = .ok (.isub, 1) := by decide +kernel
theorem k55_14 : decode (mB 55) 14 = .ok (.putfield 15, 3) ∧ tF (mO 55) 15 = some (1, 2, 0, 0) := by decide +kernel
theorem k55_17 : decode (mB 55) 17 = .ok (.return_, 1) ∧ mR 55 = none := by decide +kernel
-- 56: ChairPast$Plain.sizeOf:(LChairPast$Chair;LChairPast$Line;)I, locals 4
theorem l56 : mL 56 = 4 := by decide +kernel
theorem k56_0 : decode (mB 56) 0 = .ok (.aload_n 2, 1) := by decide +kernel
theorem k56_1 : decode (mB 56) 1 = .ok (.bipush 11, 2) := by decide +kernel
theorem k56_3 : decode (mB 56) 3 = .ok (.invokevirtual 24, 3) ∧ tVn (mO 56) 24 = some 1 ∧ tV (mO 56) 24 4 = some 47 := by decide +kernel
theorem k56_6 : decode (mB 56) 6 = .ok (.pop, 1) := by decide +kernel
theorem k56_7 : decode (mB 56) 7 = .ok (.aload_n 0, 1) := by decide +kernel
theorem k56_8 : decode (mB 56) 8 = .ok (.aload_n 1, 1) := by decide +kernel
theorem k56_9 : decode (mB 56) 9 = .ok (.aload_n 2, 1) := by decide +kernel
theorem k56_10 : decode (mB 56) 10 = .ok (.invokespecial 30, 3) ∧ tB (mO 56) 30 = false ∧ tI (mO 56) 30 = none ∧ tJ (mO 56) 30 = none ∧ tP (mO 56) 30 = some 43 := by decide +kernel
theorem k56_13 : decode (mB 56) 13 = .ok (.istore_n 3, 1) := by decide +kernel
theorem k56_14 : decode (mB 56) 14 = .ok (.iload_n 3, 1) := by decide +kernel
theorem k56_15 : decode (mB 56) 15 = .ok (.aload_n 0, 1) := by decide +kernel
theorem k56_16 : decode (mB 56) 16 = .ok (.aload_n 1, 1) := by decide +kernel
theorem k56_17 : decode (mB 56) 17 = .ok (.aload_n 2, 1) := by decide +kernel
theorem k56_18_5 : decode (mB 56) 18 = .ok (.invokevirtual 34, 3) ∧ tVn (mO 56) 34 = some 2 ∧ tV (mO 56) 34 5 = some 57 := by decide +kernel
theorem k56_18_7 : decode (mB 56) 18 = .ok (.invokevirtual 34, 3) ∧ tVn (mO 56) 34 = some 2 ∧ tV (mO 56) 34 7 = some 78 := by decide +kernel
theorem k56_18_0 : decode (mB 56) 18 = .ok (.invokevirtual 34, 3) ∧ tVn (mO 56) 34 = some 2 ∧ tV (mO 56) 34 0 = some 4 := by decide +kernel
theorem k56_21 : decode (mB 56) 21 = .ok (.iadd, 1) := by decide +kernel
theorem k56_22 : decode (mB 56) 22 = .ok (.ireturn, 1) ∧ mR 56 = (some .int) := by decide +kernel
-- 57: ChairPast$Plain.markOf:(LChairPast$Chair;LChairPast$Line;)I, locals 3
theorem l57 : mL 57 = 3 := by decide +kernel
theorem k57_0 : decode (mB 57) 0 = .ok (.aload_n 2, 1) := by decide +kernel
theorem k57_1 : decode (mB 57) 1 = .ok (.bipush 21, 2) := by decide +kernel
theorem k57_3 : decode (mB 57) 3 = .ok (.invokevirtual 24, 3) ∧ tVn (mO 57) 24 = some 1 ∧ tV (mO 57) 24 4 = some 47 := by decide +kernel
theorem k57_6 : decode (mB 57) 6 = .ok (.pop, 1) := by decide +kernel
theorem k57_7 : decode (mB 57) 7 = .ok (.aload_n 0, 1) := by decide +kernel
theorem k57_8 : decode (mB 57) 8 = .ok (.aload_n 1, 1) := by decide +kernel
theorem k57_9 : decode (mB 57) 9 = .ok (.aload_n 2, 1) := by decide +kernel
theorem k57_10 : decode (mB 57) 10 = .ok (.invokespecial 37, 3) ∧ tB (mO 57) 37 = false ∧ tI (mO 57) 37 = none ∧ tJ (mO 57) 37 = none ∧ tP (mO 57) 37 = some 44 := by decide +kernel
theorem k57_13 : decode (mB 57) 13 = .ok (.aload_n 1, 1) := by decide +kernel
theorem k57_14 : decode (mB 57) 14 = .ok (.getfield 15, 3) ∧ tF (mO 57) 15 = some (1, 2, 0, 0) := by decide +kernel
theorem k57_17 : decode (mB 57) 17 = .ok (.iadd, 1) := by decide +kernel
theorem k57_18 : decode (mB 57) 18 = .ok (.ireturn, 1) ∧ mR 57 = (some .int) := by decide +kernel
-- 58: ChairPast$Plain.blend:(III)I, locals 3
theorem l58 : mL 58 = 3 := by decide +kernel
theorem k58_0 : decode (mB 58) 0 = .ok (.iload_n 0, 1) := by decide +kernel
theorem k58_1 : decode (mB 58) 1 = .ok (.iload_n 1, 1) := by decide +kernel
theorem k58_2 : decode (mB 58) 2 = .ok (.imul, 1) := by decide +kernel
theorem k58_3 : decode (mB 58) 3 = .ok (.iload_n 2, 1) := by decide +kernel
theorem k58_4 : decode (mB 58) 4 = .ok (.bipush 16, 2) := by decide +kernel
theorem k58_6 : decode (mB 58) 6 = .ok (.iload_n 1, 1) := by decide +kernel
theorem k58_7 : decode (mB 58) 7 = .ok (.isub, 1) := by decide +kernel
theorem k58_8 : decode (mB 58) 8 = .ok (.imul, 1) := by decide +kernel
theorem k58_9 : decode (mB 58) 9 = .ok (.iadd, 1) := by decide +kernel
theorem k58_10 : decode (mB 58) 10 = .ok (.bipush 16, 2) := by decide +kernel
theorem k58_12 : decode (mB 58) 12 = .ok (.idiv, 1) := by decide +kernel
theorem k58_13 : decode (mB 58) 13 = .ok (.ireturn, 1) ∧ mR 58 = (some .int) := by decide +kernel
-- 60: ChairPast$Reader.readTape:()Z, locals 1
theorem l60 : mL 60 = 1 := by decide +kernel
theorem k60_0 : decode (mB 60) 0 = .ok (.aload_n 0, 1) := by decide +kernel
theorem k60_1 : decode (mB 60) 1 = .ok (.iconst 0, 1) := by decide +kernel
theorem k60_2 : decode (mB 60) 2 = .ok (.putfield 32, 3) ∧ tF (mO 60) 32 = some (6, 3, 0, 0) := by decide +kernel
theorem k60_5 : decode (mB 60) 5 = .ok (.aload_n 0, 1) := by decide +kernel
theorem k60_6 : decode (mB 60) 6 = .ok (.iconst 0, 1) := by decide +kernel
theorem k60_7 : decode (mB 60) 7 = .ok (.putfield 36, 3) ∧ tF (mO 60) 36 = some (6, 4, 0, 0) := by decide +kernel
theorem k60_10 : decode (mB 60) 10 = .ok (.aload_n 0, 1) := by decide +kernel
theorem k60_11 : decode (mB 60) 11 = .ok (.getfield 28, 3) ∧ tF (mO 60) 28 = some (6, 2, 1, 1) := by decide +kernel
theorem k60_14 : decode (mB 60) 14 = .ok (.invokevirtual 39, 3) ∧ tVn (mO 60) 39 = some 0 ∧ tV (mO 60) 39 8 = some 80 := by decide +kernel
theorem k60_17 : decode (mB 60) 17 = .ok (.aload_n 0, 1) := by decide +kernel
theorem k60_18 : decode (mB 60) 18 = .ok (.invokevirtual 42, 3) ∧ tVn (mO 60) 42 = some 0 ∧ tV (mO 60) 42 6 = some 62 := by decide +kernel
theorem k60_21 : decode (mB 60) 21 = .ok (.aload_n 0, 1) := by decide +kernel
theorem k60_22 : decode (mB 60) 22 = .ok (.invokevirtual 45, 3) ∧ tVn (mO 60) 45 = some 0 ∧ tV (mO 60) 45 6 = some 63 := by decide +kernel
theorem k60_25 : decode (mB 60) 25 = .ok (.aload_n 0, 1) := by decide +kernel
theorem k60_26 : decode (mB 60) 26 = .ok (.invokevirtual 48, 3) ∧ tVn (mO 60) 48 = some 0 ∧ tV (mO 60) 48 6 = some 65 := by decide +kernel
theorem k60_29 : decode (mB 60) 29 = .ok (.aload_n 0, 1) := by decide +kernel
theorem k60_30 : decode (mB 60) 30 = .ok (.getfield 32, 3) ∧ tF (mO 60) 32 = some (6, 3, 0, 0) := by decide +kernel
theorem k60_33 : decode (mB 60) 33 = .ok (.aload_n 0, 1) := by decide +kernel
theorem k60_34 : decode (mB 60) 34 = .ok (.getfield 14, 3) ∧ tF (mO 60) 14 = some (6, 0, 1, 1) := by decide +kernel
theorem k60_37 : decode (mB 60) 37 = .ok (.getfield 51, 3) ∧ tF (mO 60) 51 = some (4, 1, 0, 0) := by decide +kernel
theorem k60_40 : decode (mB 60) 40 = .ok (.if_icmp .ge 8, 3) := by decide +kernel
theorem k60_43 : decode (mB 60) 43 = .ok (.aload_n 0, 1) := by decide +kernel
theorem k60_44 : decode (mB 60) 44 = .ok (.iconst 1, 1) := by decide +kernel
theorem k60_45 : decode (mB 60) 45 = .ok (.invokevirtual 54, 3) ∧ tVn (mO 60) 54 = some 1 ∧ tV (mO 60) 54 6 = some 73 := by decide +kernel
theorem k60_48 : decode (mB 60) 48 = .ok (.aload_n 0, 1) := by decide +kernel
theorem k60_49 : decode (mB 60) 49 = .ok (.getfield 14, 3) ∧ tF (mO 60) 14 = some (6, 0, 1, 1) := by decide +kernel
theorem k60_52 : decode (mB 60) 52 = .ok (.invokevirtual 57, 3) ∧ tVn (mO 60) 57 = some 0 ∧ tV (mO 60) 57 4 = some 46 := by decide +kernel
theorem k60_55 : decode (mB 60) 55 = .ok (.aload_n 0, 1) := by decide +kernel
theorem k60_56 : decode (mB 60) 56 = .ok (.getfield 36, 3) ∧ tF (mO 60) 36 = some (6, 4, 0, 0) := by decide +kernel
theorem k60_59 : decode (mB 60) 59 = .ok (.ifCond .ne 7, 3) := by decide +kernel
theorem k60_62 : decode (mB 60) 62 = .ok (.iconst 1, 1) := by decide +kernel
theorem k60_63 : decode (mB 60) 63 = .ok (.goto 4, 3) := by decide +kernel
theorem k60_66 : decode (mB 60) 66 = .ok (.iconst 0, 1) := by decide +kernel
theorem k60_67 : decode (mB 60) 67 = .ok (.ireturn, 1) ∧ mR 60 = (some .boolean) := by decide +kernel
-- 61: ChairPast$Reader.draftPage:()LChairPast$Line;, locals 1
theorem l61 : mL 61 = 1 := by decide +kernel
theorem k61_0 : decode (mB 61) 0 = .ok (.aload_n 0, 1) := by decide +kernel
theorem k61_1 : decode (mB 61) 1 = .ok (.getfield 28, 3) ∧ tF (mO 61) 28 = some (6, 2, 1, 1) := by decide +kernel
theorem k61_4 : decode (mB 61) 4 = .ok (.aload_n 0, 1) := by decide +kernel
theorem k61_5 : decode (mB 61) 5 = .ok (.getfield 20, 3) ∧ tF (mO 61) 20 = some (6, 1, 1, 1) := by decide +kernel
theorem k61_8 : decode (mB 61) 8 = .ok (.invokevirtual 60, 3) ∧ tVn (mO 61) 60 = some 1 ∧ tV (mO 61) 60 8 = some 101 := by decide +kernel
theorem k61_11 : decode (mB 61) 11 = .ok (.aload_n 0, 1) := by decide +kernel
theorem k61_12 : decode (mB 61) 12 = .ok (.getfield 20, 3) ∧ tF (mO 61) 20 = some (6, 1, 1, 1) := by decide +kernel
theorem k61_15 : decode (mB 61) 15 = .ok (.areturn, 1) ∧ mR 61 = (some (.object "ChairPast$Line")) := by decide +kernel
-- 62: ChairPast$Reader.readLaw:()V, locals 1
theorem l62 : mL 62 = 1 := by decide +kernel
theorem k62_0 : decode (mB 62) 0 = .ok (.aload_n 0, 1) := by decide +kernel
theorem k62_1 : decode (mB 62) 1 = .ok (.bipush 97, 2) := by decide +kernel
theorem k62_3 : decode (mB 62) 3 = .ok (.invokevirtual 64, 3) ∧ tVn (mO 62) 64 = some 1 ∧ tV (mO 62) 64 6 = some 67 := by decide +kernel
theorem k62_6 : decode (mB 62) 6 = .ok (.aload_n 0, 1) := by decide +kernel
theorem k62_7 : decode (mB 62) 7 = .ok (.getfield 28, 3) ∧ tF (mO 62) 28 = some (6, 2, 1, 1) := by decide +kernel
theorem k62_10 : decode (mB 62) 10 = .ok (.aload_n 0, 1) := by decide +kernel
theorem k62_11 : decode (mB 62) 11 = .ok (.iconst 0, 1) := by decide +kernel
theorem k62_12 : decode (mB 62) 12 = .ok (.bipush 9, 2) := by decide +kernel
theorem k62_14 : decode (mB 62) 14 = .ok (.invokevirtual 67, 3) ∧ tVn (mO 62) 67 = some 2 ∧ tV (mO 62) 67 6 = some 68 := by decide +kernel
theorem k62_17 : decode (mB 62) 17 = .ok (.putfield 71, 3) ∧ tF (mO 62) 71 = some (8, 8, 0, 0) := by decide +kernel
theorem k62_20 : decode (mB 62) 20 = .ok (.aload_n 0, 1) := by decide +kernel
theorem k62_21 : decode (mB 62) 21 = .ok (.bipush 59, 2) := by decide +kernel
theorem k62_23 : decode (mB 62) 23 = .ok (.invokevirtual 64, 3) ∧ tVn (mO 62) 64 = some 1 ∧ tV (mO 62) 64 6 = some 67 := by decide +kernel
theorem k62_26 : decode (mB 62) 26 = .ok (.return_, 1) ∧ mR 62 = none := by decide +kernel
-- 63: ChairPast$Reader.readChairs:()V, locals 2
theorem l63 : mL 63 = 2 := by decide +kernel
theorem k63_0 : decode (mB 63) 0 = .ok (.iconst 0, 1) := by decide +kernel
theorem k63_1 : decode (mB 63) 1 = .ok (.istore_n 1, 1) := by decide +kernel
theorem k63_2 : decode (mB 63) 2 = .ok (.iload_n 1, 1) := by decide +kernel
theorem k63_3 : decode (mB 63) 3 = .ok (.iconst 5, 1) := by decide +kernel
theorem k63_4 : decode (mB 63) 4 = .ok (.if_icmp .gt 30, 3) := by decide +kernel
theorem k63_7 : decode (mB 63) 7 = .ok (.aload_n 0, 1) := by decide +kernel
theorem k63_8 : decode (mB 63) 8 = .ok (.getfield 36, 3) ∧ tF (mO 63) 36 = some (6, 4, 0, 0) := by decide +kernel
theorem k63_11 : decode (mB 63) 11 = .ok (.ifCond .ne 23, 3) := by decide +kernel
theorem k63_14 : decode (mB 63) 14 = .ok (.aload_n 0, 1) := by decide +kernel
theorem k63_15 : decode (mB 63) 15 = .ok (.invokevirtual 74, 3) ∧ tVn (mO 63) 74 = some 0 ∧ tV (mO 63) 74 6 = some 69 := by decide +kernel
theorem k63_18 : decode (mB 63) 18 = .ok (.invokestatic 78, 3) ∧ tM (mO 63) 78 = none ∧ tS (mO 63) 78 = some 72 := by decide +kernel
theorem k63_21 : decode (mB 63) 21 = .ok (.ifCond .eq 13, 3) := by decide +kernel
theorem k63_24 : decode (mB 63) 24 = .ok (.aload_n 0, 1) := by decide +kernel
theorem k63_25 : decode (mB 63) 25 = .ok (.invokevirtual 82, 3) ∧ tVn (mO 63) 82 = some 0 ∧ tV (mO 63) 82 6 = some 64 := by decide +kernel
theorem k63_28 : decode (mB 63) 28 = .ok (.iinc 1 1, 3) := by decide +kernel
theorem k63_31 : decode (mB 63) 31 = .ok (.goto (-29), 3) := by decide +kernel
theorem k63_34 : decode (mB 63) 34 = .ok (.aload_n 0, 1) := by decide +kernel
theorem k63_35 : decode (mB 63) 35 = .ok (.getfield 28, 3) ∧ tF (mO 63) 28 = some (6, 2, 1, 1) := by decide +kernel
theorem k63_38 : decode (mB 63) 38 = .ok (.getfield 85, 3) ∧ tF (mO 63) 85 = some (8, 6, 0, 0) := by decide +kernel
theorem k63_41 : decode (mB 63) 41 = .ok (.ifCond .ne 8, 3) := by decide +kernel
theorem k63_44 : decode (mB 63) 44 = .ok (.aload_n 0, 1) := by decide +kernel
theorem k63_45 : decode (mB 63) 45 = .ok (.iconst 1, 1) := by decide +kernel
theorem k63_46 : decode (mB 63) 46 = .ok (.invokevirtual 54, 3) ∧ tVn (mO 63) 54 = some 1 ∧ tV (mO 63) 54 6 = some 73 := by decide +kernel
theorem k63_49 : decode (mB 63) 49 = .ok (.return_, 1) ∧ mR 63 = none := by decide +kernel
-- 64: ChairPast$Reader.readChair:()V, locals 5
theorem l64 : mL 64 = 5 := by decide +kernel
theorem k64_0 : decode (mB 64) 0 = .ok (.aload_n 0, 1) := by decide +kernel
theorem k64_1 : decode (mB 64) 1 = .ok (.getfield 28, 3) ∧ tF (mO 64) 28 = some (6, 2, 1, 1) := by decide +kernel
theorem k64_4 : decode (mB 64) 4 = .ok (.getfield 85, 3) ∧ tF (mO 64) 85 = some (8, 6, 0, 0) := by decide +kernel
theorem k64_7 : decode (mB 64) 7 = .ok (.iconst 5, 1) := by decide +kernel
theorem k64_8 : decode (mB 64) 8 = .ok (.if_icmp .lt 9, 3) := by decide +kernel
theorem k64_11 : decode (mB 64) 11 = .ok (.aload_n 0, 1) := by decide +kernel
theorem k64_12 : decode (mB 64) 12 = .ok (.iconst 3, 1) := by decide +kernel
theorem k64_13 : decode (mB 64) 13 = .ok (.invokevirtual 54, 3) ∧ tVn (mO 64) 54 = some 1 ∧ tV (mO 64) 54 6 = some 73 := by decide +kernel
theorem k64_16 : decode (mB 64) 16 = .ok (.return_, 1) ∧ mR 64 = none := by decide +kernel
theorem k64_17 : decode (mB 64) 17 = .ok (.aload_n 0, 1) := by decide +kernel
theorem k64_18 : decode (mB 64) 18 = .ok (.invokevirtual 74, 3) ∧ tVn (mO 64) 74 = some 0 ∧ tV (mO 64) 74 6 = some 69 := by decide +kernel
theorem k64_21 : decode (mB 64) 21 = .ok (.invokestatic 78, 3) ∧ tM (mO 64) 78 = none ∧ tS (mO 64) 78 = some 72 := by decide +kernel
theorem k64_24 : decode (mB 64) 24 = .ok (.istore_n 1, 1) := by decide +kernel
theorem k64_25 : decode (mB 64) 25 = .ok (.aload_n 0, 1) := by decide +kernel
theorem k64_26 : decode (mB 64) 26 = .ok (.dup, 1) := by decide +kernel
theorem k64_27 : decode (mB 64) 27 = .ok (.getfield 32, 3) ∧ tF (mO 64) 32 = some (6, 3, 0, 0) := by decide +kernel
theorem k64_30 : decode (mB 64) 30 = .ok (.iconst 1, 1) := by decide +kernel
theorem k64_31 : decode (mB 64) 31 = .ok (.iadd, 1) := by decide +kernel
theorem k64_32 : decode (mB 64) 32 = .ok (.putfield 32, 3) ∧ tF (mO 64) 32 = some (6, 3, 0, 0) := by decide +kernel
theorem k64_35 : decode (mB 64) 35 = .ok (.aload_n 0, 1) := by decide +kernel
theorem k64_36 : decode (mB 64) 36 = .ok (.iconst 0, 1) := by decide +kernel
theorem k64_37 : decode (mB 64) 37 = .ok (.bipush 9, 2) := by decide +kernel
theorem k64_39 : decode (mB 64) 39 = .ok (.invokevirtual 67, 3) ∧ tVn (mO 64) 67 = some 2 ∧ tV (mO 64) 67 6 = some 68 := by decide +kernel
theorem k64_42 : decode (mB 64) 42 = .ok (.istore_n 2, 1) := by decide +kernel
theorem k64_43 : decode (mB 64) 43 = .ok (.aload_n 0, 1) := by decide +kernel
theorem k64_44 : decode (mB 64) 44 = .ok (.bipush 44, 2) := by decide +kernel
theorem k64_46 : decode (mB 64) 46 = .ok (.invokevirtual 64, 3) ∧ tVn (mO 64) 64 = some 1 ∧ tV (mO 64) 64 6 = some 67 := by decide +kernel
theorem k64_49 : decode (mB 64) 49 = .ok (.aload_n 0, 1) := by decide +kernel
theorem k64_50 : decode (mB 64) 50 = .ok (.iconst 0, 1) := by decide +kernel
theorem k64_51 : decode (mB 64) 51 = .ok (.bipush 16, 2) := by decide +kernel
theorem k64_53 : decode (mB 64) 53 = .ok (.invokevirtual 67, 3) ∧ tVn (mO 64) 67 = some 2 ∧ tV (mO 64) 67 6 = some 68 := by decide +kernel
theorem k64_56 : decode (mB 64) 56 = .ok (.istore_n 3, 1) := by decide +kernel
theorem k64_57 : decode (mB 64) 57 = .ok (.aload_n 0, 1) := by decide +kernel
theorem k64_58 : decode (mB 64) 58 = .ok (.bipush 44, 2) := by decide +kernel
theorem k64_60 : decode (mB 64) 60 = .ok (.invokevirtual 64, 3) ∧ tVn (mO 64) 64 = some 1 ∧ tV (mO 64) 64 6 = some 67 := by decide +kernel
theorem k64_63 : decode (mB 64) 63 = .ok (.aload_n 0, 1) := by decide +kernel
theorem k64_64 : decode (mB 64) 64 = .ok (.iconst 0, 1) := by decide +kernel
theorem k64_65 : decode (mB 64) 65 = .ok (.iconst 3, 1) := by decide +kernel
theorem k64_66 : decode (mB 64) 66 = .ok (.invokevirtual 67, 3) ∧ tVn (mO 64) 67 = some 2 ∧ tV (mO 64) 67 6 = some 68 := by decide +kernel
theorem k64_69 : decode (mB 64) 69 = .ok (.istore 4, 2) := by decide +kernel
theorem k64_71 : decode (mB 64) 71 = .ok (.aload_n 0, 1) := by decide +kernel
theorem k64_72 : decode (mB 64) 72 = .ok (.bipush 59, 2) := by decide +kernel
theorem k64_74 : decode (mB 64) 74 = .ok (.invokevirtual 64, 3) ∧ tVn (mO 64) 64 = some 1 ∧ tV (mO 64) 64 6 = some 67 := by decide +kernel
theorem k64_77 : decode (mB 64) 77 = .ok (.aload_n 0, 1) := by decide +kernel
theorem k64_78 : decode (mB 64) 78 = .ok (.getfield 36, 3) ∧ tF (mO 64) 36 = some (6, 4, 0, 0) := by decide +kernel
theorem k64_81 : decode (mB 64) 81 = .ok (.ifCond .ne 15, 3) := by decide +kernel
theorem k64_84 : decode (mB 64) 84 = .ok (.aload_n 0, 1) := by decide +kernel
theorem k64_85 : decode (mB 64) 85 = .ok (.getfield 28, 3) ∧ tF (mO 64) 28 = some (6, 2, 1, 1) := by decide +kernel
theorem k64_88 : decode (mB 64) 88 = .ok (.iload_n 1, 1) := by decide +kernel
theorem k64_89 : decode (mB 64) 89 = .ok (.iload_n 2, 1) := by decide +kernel
theorem k64_90 : decode (mB 64) 90 = .ok (.iload_n 3, 1) := by decide +kernel
theorem k64_91 : decode (mB 64) 91 = .ok (.iload 4, 2) := by decide +kernel
theorem k64_93 : decode (mB 64) 93 = .ok (.invokevirtual 88, 3) ∧ tVn (mO 64) 88 = some 4 ∧ tV (mO 64) 88 8 = some 81 := by decide +kernel
theorem k64_96 : decode (mB 64) 96 = .ok (.return_, 1) ∧ mR 64 = none := by decide +kernel
-- 65: ChairPast$Reader.readGuests:()V, locals 2
theorem l65 : mL 65 = 2 := by decide +kernel
theorem k65_0 : decode (mB 65) 0 = .ok (.iconst 0, 1) := by decide +kernel
theorem k65_1 : decode (mB 65) 1 = .ok (.istore_n 1, 1) := by decide +kernel
theorem k65_2 : decode (mB 65) 2 = .ok (.iload_n 1, 1) := by decide +kernel
theorem k65_3 : decode (mB 65) 3 = .ok (.iconst 5, 1) := by decide +kernel
theorem k65_4 : decode (mB 65) 4 = .ok (.if_icmp .gt 29, 3) := by decide +kernel
theorem k65_7 : decode (mB 65) 7 = .ok (.aload_n 0, 1) := by decide +kernel
theorem k65_8 : decode (mB 65) 8 = .ok (.getfield 36, 3) ∧ tF (mO 65) 36 = some (6, 4, 0, 0) := by decide +kernel
theorem k65_11 : decode (mB 65) 11 = .ok (.ifCond .ne 22, 3) := by decide +kernel
theorem k65_14 : decode (mB 65) 14 = .ok (.aload_n 0, 1) := by decide +kernel
theorem k65_15 : decode (mB 65) 15 = .ok (.invokevirtual 74, 3) ∧ tVn (mO 65) 74 = some 0 ∧ tV (mO 65) 74 6 = some 69 := by decide +kernel
theorem k65_18 : decode (mB 65) 18 = .ok (.bipush 122, 2) := by decide +kernel
theorem k65_20 : decode (mB 65) 20 = .ok (.if_icmp .ne 13, 3) := by decide +kernel
theorem k65_23 : decode (mB 65) 23 = .ok (.aload_n 0, 1) := by decide +kernel
theorem k65_24 : decode (mB 65) 24 = .ok (.invokevirtual 92, 3) ∧ tVn (mO 65) 92 = some 0 ∧ tV (mO 65) 92 6 = some 66 := by decide +kernel
theorem k65_27 : decode (mB 65) 27 = .ok (.iinc 1 1, 3) := by decide +kernel
theorem k65_30 : decode (mB 65) 30 = .ok (.goto (-28), 3) := by decide +kernel
theorem k65_33 : decode (mB 65) 33 = .ok (.return_, 1) ∧ mR 65 = none := by decide +kernel
-- 66: ChairPast$Reader.readGuest:()V, locals 3
theorem l66 : mL 66 = 3 := by decide +kernel
theorem k66_0 : decode (mB 66) 0 = .ok (.aload_n 0, 1) := by decide +kernel
theorem k66_1 : decode (mB 66) 1 = .ok (.getfield 28, 3) ∧ tF (mO 66) 28 = some (6, 2, 1, 1) := by decide +kernel
theorem k66_4 : decode (mB 66) 4 = .ok (.getfield 95, 3) ∧ tF (mO 66) 95 = some (8, 7, 0, 0) := by decide +kernel
theorem k66_7 : decode (mB 66) 7 = .ok (.iconst 5, 1) := by decide +kernel
theorem k66_8 : decode (mB 66) 8 = .ok (.if_icmp .lt 9, 3) := by decide +kernel
theorem k66_11 : decode (mB 66) 11 = .ok (.aload_n 0, 1) := by decide +kernel
theorem k66_12 : decode (mB 66) 12 = .ok (.iconst 3, 1) := by decide +kernel
theorem k66_13 : decode (mB 66) 13 = .ok (.invokevirtual 54, 3) ∧ tVn (mO 66) 54 = some 1 ∧ tV (mO 66) 54 6 = some 73 := by decide +kernel
theorem k66_16 : decode (mB 66) 16 = .ok (.return_, 1) ∧ mR 66 = none := by decide +kernel
theorem k66_17 : decode (mB 66) 17 = .ok (.aload_n 0, 1) := by decide +kernel
theorem k66_18 : decode (mB 66) 18 = .ok (.dup, 1) := by decide +kernel
theorem k66_19 : decode (mB 66) 19 = .ok (.getfield 32, 3) ∧ tF (mO 66) 32 = some (6, 3, 0, 0) := by decide +kernel
theorem k66_22 : decode (mB 66) 22 = .ok (.iconst 1, 1) := by decide +kernel
theorem k66_23 : decode (mB 66) 23 = .ok (.iadd, 1) := by decide +kernel
theorem k66_24 : decode (mB 66) 24 = .ok (.putfield 32, 3) ∧ tF (mO 66) 32 = some (6, 3, 0, 0) := by decide +kernel
theorem k66_27 : decode (mB 66) 27 = .ok (.aload_n 0, 1) := by decide +kernel
theorem k66_28 : decode (mB 66) 28 = .ok (.iconst 0, 1) := by decide +kernel
theorem k66_29 : decode (mB 66) 29 = .ok (.bipush 9, 2) := by decide +kernel
theorem k66_31 : decode (mB 66) 31 = .ok (.invokevirtual 67, 3) ∧ tVn (mO 66) 67 = some 2 ∧ tV (mO 66) 67 6 = some 68 := by decide +kernel
theorem k66_34 : decode (mB 66) 34 = .ok (.istore_n 1, 1) := by decide +kernel
theorem k66_35 : decode (mB 66) 35 = .ok (.aload_n 0, 1) := by decide +kernel
theorem k66_36 : decode (mB 66) 36 = .ok (.bipush 44, 2) := by decide +kernel
theorem k66_38 : decode (mB 66) 38 = .ok (.invokevirtual 64, 3) ∧ tVn (mO 66) 64 = some 1 ∧ tV (mO 66) 64 6 = some 67 := by decide +kernel
theorem k66_41 : decode (mB 66) 41 = .ok (.aload_n 0, 1) := by decide +kernel
theorem k66_42 : decode (mB 66) 42 = .ok (.iconst 1, 1) := by decide +kernel
theorem k66_43 : decode (mB 66) 43 = .ok (.bipush 9, 2) := by decide +kernel
theorem k66_45 : decode (mB 66) 45 = .ok (.invokevirtual 67, 3) ∧ tVn (mO 66) 67 = some 2 ∧ tV (mO 66) 67 6 = some 68 := by decide +kernel
theorem k66_48 : decode (mB 66) 48 = .ok (.istore_n 2, 1) := by decide +kernel
theorem k66_49 : decode (mB 66) 49 = .ok (.aload_n 0, 1) := by decide +kernel
theorem k66_50 : decode (mB 66) 50 = .ok (.bipush 59, 2) := by decide +kernel
theorem k66_52 : decode (mB 66) 52 = .ok (.invokevirtual 64, 3) ∧ tVn (mO 66) 64 = some 1 ∧ tV (mO 66) 64 6 = some 67 := by decide +kernel
theorem k66_55 : decode (mB 66) 55 = .ok (.aload_n 0, 1) := by decide +kernel
theorem k66_56 : decode (mB 66) 56 = .ok (.getfield 36, 3) ∧ tF (mO 66) 36 = some (6, 4, 0, 0) := by decide +kernel
theorem k66_59 : decode (mB 66) 59 = .ok (.ifCond .ne 12, 3) := by decide +kernel
theorem k66_62 : decode (mB 66) 62 = .ok (.aload_n 0, 1) := by decide +kernel
theorem k66_63 : decode (mB 66) 63 = .ok (.getfield 28, 3) ∧ tF (mO 66) 28 = some (6, 2, 1, 1) := by decide +kernel
theorem k66_66 : decode (mB 66) 66 = .ok (.iload_n 1, 1) := by decide +kernel
theorem k66_67 : decode (mB 66) 67 = .ok (.iload_n 2, 1) := by decide +kernel
theorem k66_68 : decode (mB 66) 68 = .ok (.invokevirtual 98, 3) ∧ tVn (mO 66) 98 = some 2 ∧ tV (mO 66) 98 8 = some 82 := by decide +kernel
theorem k66_71 : decode (mB 66) 71 = .ok (.return_, 1) ∧ mR 66 = none := by decide +kernel
-- 67: ChairPast$Reader.readSign:(I)V, locals 2
theorem l67 : mL 67 = 2 := by decide +kernel
theorem k67_0 : decode (mB 67) 0 = .ok (.aload_n 0, 1) := by decide +kernel
theorem k67_1 : decode (mB 67) 1 = .ok (.getfield 36, 3) ∧ tF (mO 67) 36 = some (6, 4, 0, 0) := by decide +kernel
theorem k67_4 : decode (mB 67) 4 = .ok (.ifCond .eq 4, 3) := by decide +kernel
theorem k67_7 : decode (mB 67) 7 = .ok (.return_, 1) ∧ mR 67 = none := by decide +kernel
theorem k67_8 : decode (mB 67) 8 = .ok (.aload_n 0, 1) := by decide +kernel
theorem k67_9 : decode (mB 67) 9 = .ok (.invokevirtual 74, 3) ∧ tVn (mO 67) 74 = some 0 ∧ tV (mO 67) 74 6 = some 69 := by decide +kernel
theorem k67_12 : decode (mB 67) 12 = .ok (.iload_n 1, 1) := by decide +kernel
theorem k67_13 : decode (mB 67) 13 = .ok (.if_icmp .ne 16, 3) := by decide +kernel
theorem k67_16 : decode (mB 67) 16 = .ok (.aload_n 0, 1) := by decide +kernel
theorem k67_17 : decode (mB 67) 17 = .ok (.dup, 1) := by decide +kernel
theorem k67_18 : decode (mB 67) 18 = .ok (.getfield 32, 3) ∧ tF (mO 67) 32 = some (6, 3, 0, 0) := by decide +kernel
theorem k67_21 : decode (mB 67) 21 = .ok (.iconst 1, 1) := by decide +kernel
theorem k67_22 : decode (mB 67) 22 = .ok (.iadd, 1) := by decide +kernel
theorem k67_23 : decode (mB 67) 23 = .ok (.putfield 32, 3) ∧ tF (mO 67) 32 = some (6, 3, 0, 0) := by decide +kernel
theorem k67_26 : decode (mB 67) 26 = .ok (.goto 8, 3) := by decide +kernel
theorem k67_29 : decode (mB 67) 29 = .ok (.aload_n 0, 1) := by decide +kernel
theorem k67_30 : decode (mB 67) 30 = .ok (.iconst 1, 1) := by decide +kernel
theorem k67_31 : decode (mB 67) 31 = .ok (.invokevirtual 54, 3) ∧ tVn (mO 67) 54 = some 1 ∧ tV (mO 67) 54 6 = some 73 := by decide +kernel
theorem k67_34 : decode (mB 67) 34 = .ok (.return_, 1) ∧ mR 67 = none := by decide +kernel
-- 68: ChairPast$Reader.readNumber:(II)I, locals 5
theorem l68 : mL 68 = 5 := by decide +kernel
theorem k68_0 : decode (mB 68) 0 = .ok (.aload_n 0, 1) := by decide +kernel
theorem k68_1 : decode (mB 68) 1 = .ok (.getfield 36, 3) ∧ tF (mO 68) 36 = some (6, 4, 0, 0) := by decide +kernel
theorem k68_4 : decode (mB 68) 4 = .ok (.ifCond .eq 5, 3) := by decide +kernel
theorem k68_7 : decode (mB 68) 7 = .ok (.iload_n 1, 1) := by decide +kernel
theorem k68_8 : decode (mB 68) 8 = .ok (.ireturn, 1) ∧ mR 68 = (some .int) := by decide +kernel
theorem k68_9 : decode (mB 68) 9 = .ok (.iconst 0, 1) := by decide +kernel
theorem k68_10 : decode (mB 68) 10 = .ok (.istore_n 3, 1) := by decide +kernel
theorem k68_11 : decode (mB 68) 11 = .ok (.iconst 0, 1) := by decide +kernel
theorem k68_12 : decode (mB 68) 12 = .ok (.istore 4, 2) := by decide +kernel
theorem k68_14 : decode (mB 68) 14 = .ok (.iload_n 3, 1) := by decide +kernel
theorem k68_15 : decode (mB 68) 15 = .ok (.iconst 2, 1) := by decide +kernel
theorem k68_16 : decode (mB 68) 16 = .ok (.if_icmp .gt 46, 3) := by decide +kernel
theorem k68_19 : decode (mB 68) 19 = .ok (.aload_n 0, 1) := by decide +kernel
theorem k68_20 : decode (mB 68) 20 = .ok (.aload_n 0, 1) := by decide +kernel
theorem k68_21 : decode (mB 68) 21 = .ok (.getfield 32, 3) ∧ tF (mO 68) 32 = some (6, 3, 0, 0) := by decide +kernel
theorem k68_24 : decode (mB 68) 24 = .ok (.iload_n 3, 1) := by decide +kernel
theorem k68_25 : decode (mB 68) 25 = .ok (.iadd, 1) := by decide +kernel
theorem k68_26 : decode (mB 68) 26 = .ok (.invokevirtual 102, 3) ∧ tVn (mO 68) 102 = some 1 ∧ tV (mO 68) 102 6 = some 70 := by decide +kernel
theorem k68_29 : decode (mB 68) 29 = .ok (.invokestatic 105, 3) ∧ tM (mO 68) 105 = none ∧ tS (mO 68) 105 = some 71 := by decide +kernel
theorem k68_32 : decode (mB 68) 32 = .ok (.ifCond .eq 30, 3) := by decide +kernel
theorem k68_35 : decode (mB 68) 35 = .ok (.iload 4, 2) := by decide +kernel
theorem k68_37 : decode (mB 68) 37 = .ok (.bipush 10, 2) := by decide +kernel
theorem k68_39 : decode (mB 68) 39 = .ok (.imul, 1) := by decide +kernel
theorem k68_40 : decode (mB 68) 40 = .ok (.aload_n 0, 1) := by decide +kernel
theorem k68_41 : decode (mB 68) 41 = .ok (.aload_n 0, 1) := by decide +kernel
theorem k68_42 : decode (mB 68) 42 = .ok (.getfield 32, 3) ∧ tF (mO 68) 32 = some (6, 3, 0, 0) := by decide +kernel
theorem k68_45 : decode (mB 68) 45 = .ok (.iload_n 3, 1) := by decide +kernel
theorem k68_46 : decode (mB 68) 46 = .ok (.iadd, 1) := by decide +kernel
theorem k68_47 : decode (mB 68) 47 = .ok (.invokevirtual 102, 3) ∧ tVn (mO 68) 102 = some 1 ∧ tV (mO 68) 102 6 = some 70 := by decide +kernel
theorem k68_50 : decode (mB 68) 50 = .ok (.iadd, 1) := by decide +kernel
theorem k68_51 : decode (mB 68) 51 = .ok (.bipush 48, 2) := by decide +kernel
theorem k68_53 : decode (mB 68) 53 = .ok (.isub, 1) := by decide +kernel
theorem k68_54 : decode (mB 68) 54 = .ok (.istore 4, 2) := by decide +kernel
theorem k68_56 : decode (mB 68) 56 = .ok (.iinc 3 1, 3) := by decide +kernel
theorem k68_59 : decode (mB 68) 59 = .ok (.goto (-45), 3) := by decide +kernel
theorem k68_62 : decode (mB 68) 62 = .ok (.iload_n 3, 1) := by decide +kernel
theorem k68_63 : decode (mB 68) 63 = .ok (.ifCond .eq 8, 3) := by decide +kernel
theorem k68_66 : decode (mB 68) 66 = .ok (.iload_n 3, 1) := by decide +kernel
theorem k68_67 : decode (mB 68) 67 = .ok (.iconst 2, 1) := by decide +kernel
theorem k68_68 : decode (mB 68) 68 = .ok (.if_icmp .le 11, 3) := by decide +kernel
theorem k68_71 : decode (mB 68) 71 = .ok (.aload_n 0, 1) := by decide +kernel
theorem k68_72 : decode (mB 68) 72 = .ok (.iconst 1, 1) := by decide +kernel
theorem k68_73 : decode (mB 68) 73 = .ok (.invokevirtual 54, 3) ∧ tVn (mO 68) 54 = some 1 ∧ tV (mO 68) 54 6 = some 73 := by decide +kernel
theorem k68_76 : decode (mB 68) 76 = .ok (.goto 33, 3) := by decide +kernel
theorem k68_79 : decode (mB 68) 79 = .ok (.iload 4, 2) := by decide +kernel
theorem k68_81 : decode (mB 68) 81 = .ok (.iload_n 1, 1) := by decide +kernel
theorem k68_82 : decode (mB 68) 82 = .ok (.if_icmp .lt 9, 3) := by decide +kernel
theorem k68_85 : decode (mB 68) 85 = .ok (.iload 4, 2) := by decide +kernel
theorem k68_87 : decode (mB 68) 87 = .ok (.iload_n 2, 1) := by decide +kernel
theorem k68_88 : decode (mB 68) 88 = .ok (.if_icmp .le 11, 3) := by decide +kernel
theorem k68_91 : decode (mB 68) 91 = .ok (.aload_n 0, 1) := by decide +kernel
theorem k68_92 : decode (mB 68) 92 = .ok (.iconst 2, 1) := by decide +kernel
theorem k68_93 : decode (mB 68) 93 = .ok (.invokevirtual 54, 3) ∧ tVn (mO 68) 54 = some 1 ∧ tV (mO 68) 54 6 = some 73 := by decide +kernel
theorem k68_96 : decode (mB 68) 96 = .ok (.goto 13, 3) := by decide +kernel
theorem k68_99 : decode (mB 68) 99 = .ok (.aload_n 0, 1) := by decide +kernel
theorem k68_100 : decode (mB 68) 100 = .ok (.dup, 1) := by decide +kernel
theorem k68_101 : decode (mB 68) 101 = .ok (.getfield 32, 3) ∧ tF (mO 68) 32 = some (6, 3, 0, 0) := by decide +kernel
theorem k68_104 : decode (mB 68) 104 = .ok (.iload_n 3, 1) := by decide +kernel
theorem k68_105 : decode (mB 68) 105 = .ok (.iadd, 1) := by decide +kernel
theorem k68_106 : decode (mB 68) 106 = .ok (.putfield 32, 3) ∧ tF (mO 68) 32 = some (6, 3, 0, 0) := by decide +kernel
theorem k68_109 : decode (mB 68) 109 = .ok (.iload 4, 2) := by decide +kernel
theorem k68_111 : decode (mB 68) 111 = .ok (.ireturn, 1) ∧ mR 68 = (some .int) := by decide +kernel
-- 69: ChairPast$Reader.ahead:()I, locals 1
theorem l69 : mL 69 = 1 := by decide +kernel
theorem k69_0 : decode (mB 69) 0 = .ok (.aload_n 0, 1) := by decide +kernel
theorem k69_1 : decode (mB 69) 1 = .ok (.aload_n 0, 1) := by decide +kernel
theorem k69_2 : decode (mB 69) 2 = .ok (.getfield 32, 3) ∧ tF (mO 69) 32 = some (6, 3, 0, 0) := by decide +kernel
theorem k69_5 : decode (mB 69) 5 = .ok (.invokevirtual 102, 3) ∧ tVn (mO 69) 102 = some 1 ∧ tV (mO 69) 102 6 = some 70 := by decide +kernel
theorem k69_8 : decode (mB 69) 8 = .ok (.ireturn, 1) ∧ mR 69 = (some .int) := by decide +kernel
-- 70: ChairPast$Reader.byteAt:(I)I, locals 2
theorem l70 : mL 70 = 2 := by decide +kernel
theorem k70_0 : decode (mB 70) 0 = .ok (.iload_n 1, 1) := by decide +kernel
theorem k70_1 : decode (mB 70) 1 = .ok (.aload_n 0, 1) := by decide +kernel
theorem k70_2 : decode (mB 70) 2 = .ok (.getfield 14, 3) ∧ tF (mO 70) 14 = some (6, 0, 1, 1) := by decide +kernel
theorem k70_5 : decode (mB 70) 5 = .ok (.getfield 51, 3) ∧ tF (mO 70) 51 = some (4, 1, 0, 0) := by decide +kernel
theorem k70_8 : decode (mB 70) 8 = .ok (.if_icmp .ge 14, 3) := by decide +kernel
theorem k70_11 : decode (mB 70) 11 = .ok (.aload_n 0, 1) := by decide +kernel
theorem k70_12 : decode (mB 70) 12 = .ok (.getfield 14, 3) ∧ tF (mO 70) 14 = some (6, 0, 1, 1) := by decide +kernel
theorem k70_15 : decode (mB 70) 15 = .ok (.iload_n 1, 1) := by decide +kernel
theorem k70_16 : decode (mB 70) 16 = .ok (.invokevirtual 109, 3) ∧ tVn (mO 70) 109 = some 1 ∧ tV (mO 70) 109 4 = some 48 := by decide +kernel
theorem k70_19 : decode (mB 70) 19 = .ok (.goto 4, 3) := by decide +kernel
theorem k70_22 : decode (mB 70) 22 = .ok (.iconst (-1), 1) := by decide +kernel
theorem k70_23 : decode (mB 70) 23 = .ok (.ireturn, 1) ∧ mR 70 = (some .int) := by decide +kernel
-- 71: ChairPast$Reader.isFigure:(I)Z, locals 1
theorem l71 : mL 71 = 1 := by decide +kernel
theorem k71_0 : decode (mB 71) 0 = .ok (.iload_n 0, 1) := by decide +kernel
theorem k71_1 : decode (mB 71) 1 = .ok (.bipush 48, 2) := by decide +kernel
theorem k71_3 : decode (mB 71) 3 = .ok (.if_icmp .lt 13, 3) := by decide +kernel
theorem k71_6 : decode (mB 71) 6 = .ok (.iload_n 0, 1) := by decide +kernel
theorem k71_7 : decode (mB 71) 7 = .ok (.bipush 57, 2) := by decide +kernel
theorem k71_9 : decode (mB 71) 9 = .ok (.if_icmp .gt 7, 3) := by decide +kernel
theorem k71_12 : decode (mB 71) 12 = .ok (.iconst 1, 1) := by decide +kernel
theorem k71_13 : decode (mB 71) 13 = .ok (.goto 4, 3) := by decide +kernel
theorem k71_16 : decode (mB 71) 16 = .ok (.iconst 0, 1) := by decide +kernel
theorem k71_17 : decode (mB 71) 17 = .ok (.ireturn, 1) ∧ mR 71 = (some .boolean) := by decide +kernel
-- 72: ChairPast$Reader.kindBy:(I)I, locals 1
theorem l72 : mL 72 = 1 := by decide +kernel
theorem k72_0 : decode (mB 72) 0 = .ok (.iload_n 0, 1) := by decide +kernel
theorem k72_1 : decode (mB 72) 1 = .ok (.lookupswitch 61 #[(98, 55), (100, 59), (112, 51), (114, 53), (116, 57)], 51) := by decide +kernel
theorem k72_52 : decode (mB 72) 52 = .ok (.iconst 1, 1) := by decide +kernel
theorem k72_53 : decode (mB 72) 53 = .ok (.ireturn, 1) ∧ mR 72 = (some .int) := by decide +kernel
theorem k72_54 : decode (mB 72) 54 = .ok (.iconst 2, 1) := by decide +kernel
theorem k72_55 : decode (mB 72) 55 = .ok (.ireturn, 1) ∧ mR 72 = (some .int) := by decide +kernel
theorem k72_56 : decode (mB 72) 56 = .ok (.iconst 3, 1) := by decide +kernel
theorem k72_57 : decode (mB 72) 57 = .ok (.ireturn, 1) ∧ mR 72 = (some .int) := by decide +kernel
theorem k72_58 : decode (mB 72) 58 = .ok (.iconst 4, 1) := by decide +kernel
theorem k72_59 : decode (mB 72) 59 = .ok (.ireturn, 1) ∧ mR 72 = (some .int) := by decide +kernel
theorem k72_60 : decode (mB 72) 60 = .ok (.iconst 5, 1) := by decide +kernel
theorem k72_61 : decode (mB 72) 61 = .ok (.ireturn, 1) ∧ mR 72 = (some .int) := by decide +kernel
theorem k72_62 : decode (mB 72) 62 = .ok (.iconst 0, 1) := by decide +kernel
theorem k72_63 : decode (mB 72) 63 = .ok (.ireturn, 1) ∧ mR 72 = (some .int) := by decide +kernel
-- 73: ChairPast$Reader.fail:(I)V, locals 2
theorem l73 : mL 73 = 2 := by decide +kernel
theorem k73_0 : decode (mB 73) 0 = .ok (.aload_n 0, 1) := by decide +kernel
theorem k73_1 : decode (mB 73) 1 = .ok (.getfield 36, 3) ∧ tF (mO 73) 36 = some (6, 4, 0, 0) := by decide +kernel
theorem k73_4 : decode (mB 73) 4 = .ok (.ifCond .ne 8, 3) := by decide +kernel
theorem k73_7 : decode (mB 73) 7 = .ok (.aload_n 0, 1) := by decide +kernel
theorem k73_8 : decode (mB 73) 8 = .ok (.iload_n 1, 1) := by decide +kernel
theorem k73_9 : decode (mB 73) 9 = .ok (.putfield 36, 3) ∧ tF (mO 73) 36 = some (6, 4, 0, 0) := by decide +kernel
theorem k73_12 : decode (mB 73) 12 = .ok (.return_, 1) ∧ mR 73 = none := by decide +kernel
-- 75: ChairPast$Rocker.number:()I, locals 1
theorem l75 : mL 75 = 1 := by decide +kernel
theorem k75_0 : decode (mB 75) 0 = .ok (.iconst 2, 1) := by decide +kernel
theorem k75_1 : decode (mB 75) 1 = .ok (.ireturn, 1) ∧ mR 75 = (some .int) := by decide +kernel
-- 76: ChairPast$Rocker.bearingOn:(LChairPast$Chair;I)I, locals 3
theorem l76 : mL 76 = 3 := by decide +kernel
theorem k76_0 : decode (mB 76) 0 = .ok (.aload_n 1, 1) := by decide +kernel
theorem k76_1 : decode (mB 76) 1 = .ok (.getfield 7, 3) ∧ tF (mO 76) 7 = some (1, 4, 0, 0) := by decide +kernel
theorem k76_4 : decode (mB 76) 4 = .ok (.iconst 2, 1) := by decide +kernel
theorem k76_5 : decode (mB 76) 5 = .ok (.irem, 1) := by decide +kernel
theorem k76_6 : decode (mB 76) 6 = .ok (.ifCond .ne 18, 3) := by decide +kernel
theorem k76_9 : decode (mB 76) 9 = .ok (.aload_n 1, 1) := by decide +kernel
theorem k76_10 : decode (mB 76) 10 = .ok (.getfield 13, 3) ∧ tF (mO 76) 13 = some (1, 1, 0, 0) := by decide +kernel
theorem k76_13 : decode (mB 76) 13 = .ok (.aload_n 1, 1) := by decide +kernel
theorem k76_14 : decode (mB 76) 14 = .ok (.getfield 16, 3) ∧ tF (mO 76) 16 = some (1, 2, 0, 0) := by decide +kernel
theorem k76_17 : decode (mB 76) 17 = .ok (.iload_n 2, 1) := by decide +kernel
theorem k76_18 : decode (mB 76) 18 = .ok (.invokestatic 19, 3) ∧ tM (mO 76) 19 = none ∧ tS (mO 76) 19 = some 58 := by decide +kernel
theorem k76_21 : decode (mB 76) 21 = .ok (.goto 4, 3) := by decide +kernel
theorem k76_24 : decode (mB 76) 24 = .ok (.iload_n 2, 1) := by decide +kernel
theorem k76_25 : decode (mB 76) 25 = .ok (.ireturn, 1) ∧ mR 76 = (some .int) := by decide +kernel
-- 77: ChairPast$Rocker.sizeOf:(LChairPast$Chair;LChairPast$Line;)I, locals 3
theorem l77 : mL 77 = 3 := by decide +kernel
theorem k77_0 : decode (mB 77) 0 = .ok (.aload_n 2, 1) := by decide +kernel
theorem k77_1 : decode (mB 77) 1 = .ok (.bipush 12, 2) := by decide +kernel
theorem k77_3 : decode (mB 77) 3 = .ok (.invokevirtual 25, 3) ∧ tVn (mO 77) 25 = some 1 ∧ tV (mO 77) 25 4 = some 47 := by decide +kernel
theorem k77_6 : decode (mB 77) 6 = .ok (.pop, 1) := by decide +kernel
theorem k77_7 : decode (mB 77) 7 = .ok (.aload_n 0, 1) := by decide +kernel
theorem k77_8 : decode (mB 77) 8 = .ok (.aload_n 1, 1) := by decide +kernel
theorem k77_9 : decode (mB 77) 9 = .ok (.aload_n 2, 1) := by decide +kernel
theorem k77_10 : decode (mB 77) 10 = .ok (.invokespecial 31, 3) ∧ tB (mO 77) 31 = false ∧ tI (mO 77) 31 = none ∧ tJ (mO 77) 31 = none ∧ tP (mO 77) 31 = some 56 := by decide +kernel
theorem k77_13 : decode (mB 77) 13 = .ok (.ineg, 1) := by decide +kernel
theorem k77_14 : decode (mB 77) 14 = .ok (.ireturn, 1) ∧ mR 77 = (some .int) := by decide +kernel
-- 78: ChairPast$Rocker.markOf:(LChairPast$Chair;LChairPast$Line;)I, locals 3
theorem l78 : mL 78 = 3 := by decide +kernel
theorem k78_0 : decode (mB 78) 0 = .ok (.aload_n 2, 1) := by decide +kernel
theorem k78_1 : decode (mB 78) 1 = .ok (.bipush 24, 2) := by decide +kernel
theorem k78_3 : decode (mB 78) 3 = .ok (.invokevirtual 25, 3) ∧ tVn (mO 78) 25 = some 1 ∧ tV (mO 78) 25 4 = some 47 := by decide +kernel
theorem k78_6 : decode (mB 78) 6 = .ok (.pop, 1) := by decide +kernel
theorem k78_7 : decode (mB 78) 7 = .ok (.iconst 2, 1) := by decide +kernel
theorem k78_8 : decode (mB 78) 8 = .ok (.aload_n 0, 1) := by decide +kernel
theorem k78_9 : decode (mB 78) 9 = .ok (.aload_n 1, 1) := by decide +kernel
theorem k78_10 : decode (mB 78) 10 = .ok (.aload_n 2, 1) := by decide +kernel
theorem k78_11 : decode (mB 78) 11 = .ok (.invokespecial 35, 3) ∧ tB (mO 78) 35 = false ∧ tI (mO 78) 35 = none ∧ tJ (mO 78) 35 = none ∧ tP (mO 78) 35 = some 57 := by decide +kernel
theorem k78_14 : decode (mB 78) 14 = .ok (.imul, 1) := by decide +kernel
theorem k78_15 : decode (mB 78) 15 = .ok (.ireturn, 1) ∧ mR 78 = (some .int) := by decide +kernel
-- 80: ChairPast$Room.empty:()V, locals 1
theorem l80 : mL 80 = 1 := by decide +kernel
theorem k80_0 : decode (mB 80) 0 = .ok (.aload_n 0, 1) := by decide +kernel
theorem k80_1 : decode (mB 80) 1 = .ok (.iconst 0, 1) := by decide +kernel
theorem k80_2 : decode (mB 80) 2 = .ok (.putfield 37, 3) ∧ tF (mO 80) 37 = some (8, 6, 0, 0) := by decide +kernel
theorem k80_5 : decode (mB 80) 5 = .ok (.aload_n 0, 1) := by decide +kernel
theorem k80_6 : decode (mB 80) 6 = .ok (.iconst 0, 1) := by decide +kernel
theorem k80_7 : decode (mB 80) 7 = .ok (.putfield 41, 3) ∧ tF (mO 80) 41 = some (8, 7, 0, 0) := by decide +kernel
theorem k80_10 : decode (mB 80) 10 = .ok (.aload_n 0, 1) := by decide +kernel
theorem k80_11 : decode (mB 80) 11 = .ok (.iconst 0, 1) := by decide +kernel
theorem k80_12 : decode (mB 80) 12 = .ok (.putfield 44, 3) ∧ tF (mO 80) 44 = some (8, 8, 0, 0) := by decide +kernel
theorem k80_15 : decode (mB 80) 15 = .ok (.return_, 1) ∧ mR 80 = none := by decide +kernel
-- 81: ChairPast$Room.addChair:(IIII)V, locals 6
theorem l81 : mL 81 = 6 := by decide +kernel
theorem k81_0 : decode (mB 81) 0 = .ok (.aload_n 0, 1) := by decide +kernel
theorem k81_1 : decode (mB 81) 1 = .ok (.getfield 37, 3) ∧ tF (mO 81) 37 = some (8, 6, 0, 0) := by decide +kernel
theorem k81_4 : decode (mB 81) 4 = .ok (.iconst 5, 1) := by decide +kernel
theorem k81_5 : decode (mB 81) 5 = .ok (.if_icmp .ge 17, 3) := by decide +kernel
theorem k81_8 : decode (mB 81) 8 = .ok (.iload_n 1, 1) := by decide +kernel
theorem k81_9 : decode (mB 81) 9 = .ok (.iconst 1, 1) := by decide +kernel
theorem k81_10 : decode (mB 81) 10 = .ok (.if_icmp .lt 12, 3) := by decide +kernel
theorem k81_13 : decode (mB 81) 13 = .ok (.iload_n 1, 1) := by decide +kernel
theorem k81_14 : decode (mB 81) 14 = .ok (.aload_n 0, 1) := by decide +kernel
theorem k81_15 : decode (mB 81) 15 = .ok (.getfield 30, 3) ∧ tF (mO 81) 30 = some (8, 0, 1, 1) := by decide +kernel
theorem k81_18 : decode (mB 81) 18 = .ok (.arraylength, 1) := by decide +kernel
theorem k81_19 : decode (mB 81) 19 = .ok (.if_icmp .le 4, 3) := by decide +kernel
theorem k81_22 : decode (mB 81) 22 = .ok (.return_, 1) ∧ mR 81 = none := by decide +kernel
theorem k81_23 : decode (mB 81) 23 = .ok (.aload_n 0, 1) := by decide +kernel
theorem k81_24 : decode (mB 81) 24 = .ok (.getfield 11, 3) ∧ tF (mO 81) 11 = some (8, 1, 1, 1) := by decide +kernel
theorem k81_27 : decode (mB 81) 27 = .ok (.aload_n 0, 1) := by decide +kernel
theorem k81_28 : decode (mB 81) 28 = .ok (.getfield 37, 3) ∧ tF (mO 81) 37 = some (8, 6, 0, 0) := by decide +kernel
theorem k81_31 : decode (mB 81) 31 = .ok (.aaload, 1) := by decide +kernel
theorem k81_32 : decode (mB 81) 32 = .ok (.astore 5, 2) := by decide +kernel
theorem k81_34 : decode (mB 81) 34 = .ok (.aload 5, 2) := by decide +kernel
theorem k81_36 : decode (mB 81) 36 = .ok (.aload_n 0, 1) := by decide +kernel
theorem k81_37 : decode (mB 81) 37 = .ok (.getfield 30, 3) ∧ tF (mO 81) 30 = some (8, 0, 1, 1) := by decide +kernel
theorem k81_40 : decode (mB 81) 40 = .ok (.iload_n 1, 1) := by decide +kernel
theorem k81_41 : decode (mB 81) 41 = .ok (.iconst 1, 1) := by decide +kernel
theorem k81_42 : decode (mB 81) 42 = .ok (.isub, 1) := by decide +kernel
theorem k81_43 : decode (mB 81) 43 = .ok (.aaload, 1) := by decide +kernel
theorem k81_44 : decode (mB 81) 44 = .ok (.putfield 47, 3) ∧ tF (mO 81) 47 = some (1, 0, 1, 0) := by decide +kernel
theorem k81_47 : decode (mB 81) 47 = .ok (.aload 5, 2) := by decide +kernel
theorem k81_49 : decode (mB 81) 49 = .ok (.iload_n 2, 1) := by decide +kernel
theorem k81_50 : decode (mB 81) 50 = .ok (.putfield 51, 3) ∧ tF (mO 81) 51 = some (1, 1, 0, 0) := by decide +kernel
theorem k81_53 : decode (mB 81) 53 = .ok (.aload 5, 2) := by decide +kernel
theorem k81_55 : decode (mB 81) 55 = .ok (.iload_n 3, 1) := by decide +kernel
theorem k81_56 : decode (mB 81) 56 = .ok (.putfield 54, 3) ∧ tF (mO 81) 54 = some (1, 2, 0, 0) := by decide +kernel
theorem k81_59 : decode (mB 81) 59 = .ok (.aload 5, 2) := by decide +kernel
theorem k81_61 : decode (mB 81) 61 = .ok (.iload 4, 2) := by decide +kernel
theorem k81_63 : decode (mB 81) 63 = .ok (.putfield 57, 3) ∧ tF (mO 81) 57 = some (1, 3, 0, 0) := by decide +kernel
theorem k81_66 : decode (mB 81) 66 = .ok (.aload 5, 2) := by decide +kernel
theorem k81_68 : decode (mB 81) 68 = .ok (.iconst 0, 1) := by decide +kernel
theorem k81_69 : decode (mB 81) 69 = .ok (.putfield 60, 3) ∧ tF (mO 81) 60 = some (1, 4, 0, 0) := by decide +kernel
theorem k81_72 : decode (mB 81) 72 = .ok (.aload 5, 2) := by decide +kernel
theorem k81_74 : decode (mB 81) 74 = .ok (.ldc 63, 2) ∧ tK (mO 81) 63 = some (-1000000) := by decide +kernel
theorem k81_76 : decode (mB 81) 76 = .ok (.putfield 64, 3) ∧ tF (mO 81) 64 = some (1, 5, 0, 0) := by decide +kernel
theorem k81_79 : decode (mB 81) 79 = .ok (.aload_n 0, 1) := by decide +kernel
theorem k81_80 : decode (mB 81) 80 = .ok (.dup, 1) := by decide +kernel
theorem k81_81 : decode (mB 81) 81 = .ok (.getfield 37, 3) ∧ tF (mO 81) 37 = some (8, 6, 0, 0) := by decide +kernel
theorem k81_84 : decode (mB 81) 84 = .ok (.iconst 1, 1) := by decide +kernel
theorem k81_85 : decode (mB 81) 85 = .ok (.iadd, 1) := by decide +kernel
theorem k81_86 : decode (mB 81) 86 = .ok (.putfield 37, 3) ∧ tF (mO 81) 37 = some (8, 6, 0, 0) := by decide +kernel
theorem k81_89 : decode (mB 81) 89 = .ok (.return_, 1) ∧ mR 81 = none := by decide +kernel
-- 82: ChairPast$Room.addGuest:(II)V, locals 3
theorem l82 : mL 82 = 3 := by decide +kernel
theorem k82_0 : decode (mB 82) 0 = .ok (.aload_n 0, 1) := by decide +kernel
theorem k82_1 : decode (mB 82) 1 = .ok (.getfield 41, 3) ∧ tF (mO 82) 41 = some (8, 7, 0, 0) := by decide +kernel
theorem k82_4 : decode (mB 82) 4 = .ok (.iconst 5, 1) := by decide +kernel
theorem k82_5 : decode (mB 82) 5 = .ok (.if_icmp .lt 4, 3) := by decide +kernel
theorem k82_8 : decode (mB 82) 8 = .ok (.return_, 1) ∧ mR 82 = none := by decide +kernel
theorem k82_9 : decode (mB 82) 9 = .ok (.aload_n 0, 1) := by decide +kernel
theorem k82_10 : decode (mB 82) 10 = .ok (.getfield 17, 3) ∧ tF (mO 82) 17 = some (8, 2, 1, 1) := by decide +kernel
theorem k82_13 : decode (mB 82) 13 = .ok (.aload_n 0, 1) := by decide +kernel
theorem k82_14 : decode (mB 82) 14 = .ok (.getfield 41, 3) ∧ tF (mO 82) 41 = some (8, 7, 0, 0) := by decide +kernel
theorem k82_17 : decode (mB 82) 17 = .ok (.iload_n 1, 1) := by decide +kernel
theorem k82_18 : decode (mB 82) 18 = .ok (.iastore, 1) := by decide +kernel
theorem k82_19 : decode (mB 82) 19 = .ok (.aload_n 0, 1) := by decide +kernel
theorem k82_20 : decode (mB 82) 20 = .ok (.getfield 21, 3) ∧ tF (mO 82) 21 = some (8, 3, 1, 1) := by decide +kernel
theorem k82_23 : decode (mB 82) 23 = .ok (.aload_n 0, 1) := by decide +kernel
theorem k82_24 : decode (mB 82) 24 = .ok (.getfield 41, 3) ∧ tF (mO 82) 41 = some (8, 7, 0, 0) := by decide +kernel
theorem k82_27 : decode (mB 82) 27 = .ok (.iload_n 2, 1) := by decide +kernel
theorem k82_28 : decode (mB 82) 28 = .ok (.iastore, 1) := by decide +kernel
theorem k82_29 : decode (mB 82) 29 = .ok (.aload_n 0, 1) := by decide +kernel
theorem k82_30 : decode (mB 82) 30 = .ok (.getfield 24, 3) ∧ tF (mO 82) 24 = some (8, 4, 1, 1) := by decide +kernel
theorem k82_33 : decode (mB 82) 33 = .ok (.aload_n 0, 1) := by decide +kernel
theorem k82_34 : decode (mB 82) 34 = .ok (.getfield 41, 3) ∧ tF (mO 82) 41 = some (8, 7, 0, 0) := by decide +kernel
theorem k82_37 : decode (mB 82) 37 = .ok (.ldc 63, 2) ∧ tK (mO 82) 63 = some (-1000000) := by decide +kernel
theorem k82_39 : decode (mB 82) 39 = .ok (.iastore, 1) := by decide +kernel
theorem k82_40 : decode (mB 82) 40 = .ok (.aload_n 0, 1) := by decide +kernel
theorem k82_41 : decode (mB 82) 41 = .ok (.getfield 27, 3) ∧ tF (mO 82) 27 = some (8, 5, 1, 1) := by decide +kernel
theorem k82_44 : decode (mB 82) 44 = .ok (.aload_n 0, 1) := by decide +kernel
theorem k82_45 : decode (mB 82) 45 = .ok (.getfield 41, 3) ∧ tF (mO 82) 41 = some (8, 7, 0, 0) := by decide +kernel
theorem k82_48 : decode (mB 82) 48 = .ok (.ldc 63, 2) ∧ tK (mO 82) 63 = some (-1000000) := by decide +kernel
theorem k82_50 : decode (mB 82) 50 = .ok (.iastore, 1) := by decide +kernel
theorem k82_51 : decode (mB 82) 51 = .ok (.aload_n 0, 1) := by decide +kernel
theorem k82_52 : decode (mB 82) 52 = .ok (.dup, 1) := by decide +kernel
theorem k82_53 : decode (mB 82) 53 = .ok (.getfield 41, 3) ∧ tF (mO 82) 41 = some (8, 7, 0, 0) := by decide +kernel
theorem k82_56 : decode (mB 82) 56 = .ok (.iconst 1, 1) := by decide +kernel
theorem k82_57 : decode (mB 82) 57 = .ok (.iadd, 1) := by decide +kernel
theorem k82_58 : decode (mB 82) 58 = .ok (.putfield 41, 3) ∧ tF (mO 82) 41 = some (8, 7, 0, 0) := by decide +kernel
theorem k82_61 : decode (mB 82) 61 = .ok (.return_, 1) ∧ mR 82 = none := by decide +kernel
-- 83: ChairPast$Room.stands:()Z, locals 1
theorem l83 : mL 83 = 1 := by decide +kernel
theorem k83_0 : decode (mB 83) 0 = .ok (.aload_n 0, 1) := by decide +kernel
theorem k83_1 : decode (mB 83) 1 = .ok (.getfield 37, 3) ∧ tF (mO 83) 37 = some (8, 6, 0, 0) := by decide +kernel
theorem k83_4 : decode (mB 83) 4 = .ok (.ifCond .le 7, 3) := by decide +kernel
theorem k83_7 : decode (mB 83) 7 = .ok (.iconst 1, 1) := by decide +kernel
theorem k83_8 : decode (mB 83) 8 = .ok (.goto 4, 3) := by decide +kernel
theorem k83_11 : decode (mB 83) 11 = .ok (.iconst 0, 1) := by decide +kernel
theorem k83_12 : decode (mB 83) 12 = .ok (.ireturn, 1) ∧ mR 83 = (some .boolean) := by decide +kernel
-- 84: ChairPast$Room.hasChair:(I)Z, locals 2
theorem l84 : mL 84 = 2 := by decide +kernel
theorem k84_0 : decode (mB 84) 0 = .ok (.iload_n 1, 1) := by decide +kernel
theorem k84_1 : decode (mB 84) 1 = .ok (.ifCond .lt 15, 3) := by decide +kernel
theorem k84_4 : decode (mB 84) 4 = .ok (.iload_n 1, 1) := by decide +kernel
theorem k84_5 : decode (mB 84) 5 = .ok (.aload_n 0, 1) := by decide +kernel
theorem k84_6 : decode (mB 84) 6 = .ok (.getfield 37, 3) ∧ tF (mO 84) 37 = some (8, 6, 0, 0) := by decide +kernel
theorem k84_9 : decode (mB 84) 9 = .ok (.if_icmp .ge 7, 3) := by decide +kernel
theorem k84_12 : decode (mB 84) 12 = .ok (.iconst 1, 1) := by decide +kernel
theorem k84_13 : decode (mB 84) 13 = .ok (.goto 4, 3) := by decide +kernel
theorem k84_16 : decode (mB 84) 16 = .ok (.iconst 0, 1) := by decide +kernel
theorem k84_17 : decode (mB 84) 17 = .ok (.ireturn, 1) ∧ mR 84 = (some .boolean) := by decide +kernel
-- 85: ChairPast$Room.hasGuest:(I)Z, locals 2
theorem l85 : mL 85 = 2 := by decide +kernel
theorem k85_0 : decode (mB 85) 0 = .ok (.iload_n 1, 1) := by decide +kernel
theorem k85_1 : decode (mB 85) 1 = .ok (.ifCond .lt 15, 3) := by decide +kernel
theorem k85_4 : decode (mB 85) 4 = .ok (.iload_n 1, 1) := by decide +kernel
theorem k85_5 : decode (mB 85) 5 = .ok (.aload_n 0, 1) := by decide +kernel
theorem k85_6 : decode (mB 85) 6 = .ok (.getfield 41, 3) ∧ tF (mO 85) 41 = some (8, 7, 0, 0) := by decide +kernel
theorem k85_9 : decode (mB 85) 9 = .ok (.if_icmp .ge 7, 3) := by decide +kernel
theorem k85_12 : decode (mB 85) 12 = .ok (.iconst 1, 1) := by decide +kernel
theorem k85_13 : decode (mB 85) 13 = .ok (.goto 4, 3) := by decide +kernel
theorem k85_16 : decode (mB 85) 16 = .ok (.iconst 0, 1) := by decide +kernel
theorem k85_17 : decode (mB 85) 17 = .ok (.ireturn, 1) ∧ mR 85 = (some .boolean) := by decide +kernel
-- 86: ChairPast$Room.isSeated:(I)Z, locals 2
theorem l86 : mL 86 = 2 := by decide +kernel
theorem k86_0 : decode (mB 86) 0 = .ok (.aload_n 0, 1) := by decide +kernel
theorem k86_1 : decode (mB 86) 1 = .ok (.getfield 24, 3) ∧ tF (mO 86) 24 = some (8, 4, 1, 1) := by decide +kernel
theorem k86_4 : decode (mB 86) 4 = .ok (.iload_n 1, 1) := by decide +kernel
theorem k86_5 : decode (mB 86) 5 = .ok (.iaload, 1) := by decide +kernel
theorem k86_6 : decode (mB 86) 6 = .ok (.ldc 63, 2) ∧ tK (mO 86) 63 = some (-1000000) := by decide +kernel
theorem k86_8 : decode (mB 86) 8 = .ok (.if_icmp .eq 7, 3) := by decide +kernel
theorem k86_11 : decode (mB 86) 11 = .ok (.iconst 1, 1) := by decide +kernel
theorem k86_12 : decode (mB 86) 12 = .ok (.goto 4, 3) := by decide +kernel
theorem k86_15 : decode (mB 86) 15 = .ok (.iconst 0, 1) := by decide +kernel
theorem k86_16 : decode (mB 86) 16 = .ok (.ireturn, 1) ∧ mR 86 = (some .boolean) := by decide +kernel
-- 87: ChairPast$Room.isTaken:(I)Z, locals 2
theorem l87 : mL 87 = 2 := by decide +kernel
theorem k87_0 : decode (mB 87) 0 = .ok (.aload_n 0, 1) := by decide +kernel
theorem k87_1 : decode (mB 87) 1 = .ok (.getfield 11, 3) ∧ tF (mO 87) 11 = some (8, 1, 1, 1) := by decide +kernel
theorem k87_4 : decode (mB 87) 4 = .ok (.iload_n 1, 1) := by decide +kernel
theorem k87_5 : decode (mB 87) 5 = .ok (.aaload, 1) := by decide +kernel
theorem k87_6 : decode (mB 87) 6 = .ok (.getfield 64, 3) ∧ tF (mO 87) 64 = some (1, 5, 0, 0) := by decide +kernel
theorem k87_9 : decode (mB 87) 9 = .ok (.ldc 63, 2) ∧ tK (mO 87) 63 = some (-1000000) := by decide +kernel
theorem k87_11 : decode (mB 87) 11 = .ok (.if_icmp .eq 7, 3) := by decide +kernel
theorem k87_14 : decode (mB 87) 14 = .ok (.iconst 1, 1) := by decide +kernel
theorem k87_15 : decode (mB 87) 15 = .ok (.goto 4, 3) := by decide +kernel
theorem k87_18 : decode (mB 87) 18 = .ok (.iconst 0, 1) := by decide +kernel
theorem k87_19 : decode (mB 87) 19 = .ok (.ireturn, 1) ∧ mR 87 = (some .boolean) := by decide +kernel
-- 88: ChairPast$Room.seatGuest:(II)V, locals 3
theorem l88 : mL 88 = 3 := by decide +kernel
theorem k88_0 : decode (mB 88) 0 = .ok (.aload_n 0, 1) := by decide +kernel
theorem k88_1 : decode (mB 88) 1 = .ok (.iload_n 1, 1) := by decide +kernel
theorem k88_2 : decode (mB 88) 2 = .ok (.iload_n 2, 1) := by decide +kernel
theorem k88_3 : decode (mB 88) 3 = .ok (.aload_n 0, 1) := by decide +kernel
theorem k88_4 : decode (mB 88) 4 = .ok (.getfield 11, 3) ∧ tF (mO 88) 11 = some (8, 1, 1, 1) := by decide +kernel
theorem k88_7 : decode (mB 88) 7 = .ok (.iload_n 2, 1) := by decide +kernel
theorem k88_8 : decode (mB 88) 8 = .ok (.aaload, 1) := by decide +kernel
theorem k88_9 : decode (mB 88) 9 = .ok (.aload_n 0, 1) := by decide +kernel
theorem k88_10 : decode (mB 88) 10 = .ok (.getfield 17, 3) ∧ tF (mO 88) 17 = some (8, 2, 1, 1) := by decide +kernel
theorem k88_13 : decode (mB 88) 13 = .ok (.iload_n 1, 1) := by decide +kernel
theorem k88_14 : decode (mB 88) 14 = .ok (.iaload, 1) := by decide +kernel
theorem k88_15 : decode (mB 88) 15 = .ok (.aload_n 0, 1) := by decide +kernel
theorem k88_16 : decode (mB 88) 16 = .ok (.getfield 21, 3) ∧ tF (mO 88) 21 = some (8, 3, 1, 1) := by decide +kernel
theorem k88_19 : decode (mB 88) 19 = .ok (.iload_n 1, 1) := by decide +kernel
theorem k88_20 : decode (mB 88) 20 = .ok (.iaload, 1) := by decide +kernel
theorem k88_21 : decode (mB 88) 21 = .ok (.invokevirtual 67, 3) ∧ tVn (mO 88) 67 = some 2 ∧ tV (mO 88) 67 1 = some 8 := by decide +kernel
theorem k88_24 : decode (mB 88) 24 = .ok (.invokevirtual 71, 3) ∧ tVn (mO 88) 71 = some 3 ∧ tV (mO 88) 71 8 = some 89 := by decide +kernel
theorem k88_27 : decode (mB 88) 27 = .ok (.return_, 1) ∧ mR 88 = none := by decide +kernel
-- 89: ChairPast$Room.putGuest:(III)V, locals 4
theorem l89 : mL 89 = 4 := by decide +kernel
theorem k89_0 : decode (mB 89) 0 = .ok (.aload_n 0, 1) := by decide +kernel
theorem k89_1 : decode (mB 89) 1 = .ok (.getfield 24, 3) ∧ tF (mO 89) 24 = some (8, 4, 1, 1) := by decide +kernel
theorem k89_4 : decode (mB 89) 4 = .ok (.iload_n 1, 1) := by decide +kernel
theorem k89_5 : decode (mB 89) 5 = .ok (.iload_n 2, 1) := by decide +kernel
theorem k89_6 : decode (mB 89) 6 = .ok (.iastore, 1) := by decide +kernel
theorem k89_7 : decode (mB 89) 7 = .ok (.aload_n 0, 1) := by decide +kernel
theorem k89_8 : decode (mB 89) 8 = .ok (.getfield 27, 3) ∧ tF (mO 89) 27 = some (8, 5, 1, 1) := by decide +kernel
theorem k89_11 : decode (mB 89) 11 = .ok (.iload_n 1, 1) := by decide +kernel
theorem k89_12 : decode (mB 89) 12 = .ok (.iload_n 3, 1) := by decide +kernel
theorem k89_13 : decode (mB 89) 13 = .ok (.iastore, 1) := by decide +kernel
theorem k89_14 : decode (mB 89) 14 = .ok (.aload_n 0, 1) := by decide +kernel
theorem k89_15 : decode (mB 89) 15 = .ok (.getfield 11, 3) ∧ tF (mO 89) 11 = some (8, 1, 1, 1) := by decide +kernel
theorem k89_18 : decode (mB 89) 18 = .ok (.iload_n 2, 1) := by decide +kernel
theorem k89_19 : decode (mB 89) 19 = .ok (.aaload, 1) := by decide +kernel
theorem k89_20 : decode (mB 89) 20 = .ok (.iload_n 1, 1) := by decide +kernel
theorem k89_21 : decode (mB 89) 21 = .ok (.putfield 64, 3) ∧ tF (mO 89) 64 = some (1, 5, 0, 0) := by decide +kernel
theorem k89_24 : decode (mB 89) 24 = .ok (.return_, 1) ∧ mR 89 = none := by decide +kernel
-- 90: ChairPast$Room.liftGuest:(I)V, locals 2
theorem l90 : mL 90 = 2 := by decide +kernel
theorem k90_0 : decode (mB 90) 0 = .ok (.aload_n 0, 1) := by decide +kernel
theorem k90_1 : decode (mB 90) 1 = .ok (.aload_n 0, 1) := by decide +kernel
theorem k90_2 : decode (mB 90) 2 = .ok (.getfield 24, 3) ∧ tF (mO 90) 24 = some (8, 4, 1, 1) := by decide +kernel
theorem k90_5 : decode (mB 90) 5 = .ok (.iload_n 1, 1) := by decide +kernel
theorem k90_6 : decode (mB 90) 6 = .ok (.iaload, 1) := by decide +kernel
theorem k90_7 : decode (mB 90) 7 = .ok (.invokevirtual 75, 3) ∧ tVn (mO 90) 75 = some 1 ∧ tV (mO 90) 75 8 = some 84 := by decide +kernel
theorem k90_10 : decode (mB 90) 10 = .ok (.ifCond .eq 19, 3) := by decide +kernel
theorem k90_13 : decode (mB 90) 13 = .ok (.aload_n 0, 1) := by decide +kernel
theorem k90_14 : decode (mB 90) 14 = .ok (.getfield 11, 3) ∧ tF (mO 90) 11 = some (8, 1, 1, 1) := by decide +kernel
theorem k90_17 : decode (mB 90) 17 = .ok (.aload_n 0, 1) := by decide +kernel
theorem k90_18 : decode (mB 90) 18 = .ok (.getfield 24, 3) ∧ tF (mO 90) 24 = some (8, 4, 1, 1) := by decide +kernel
theorem k90_21 : decode (mB 90) 21 = .ok (.iload_n 1, 1) := by decide +kernel
theorem k90_22 : decode (mB 90) 22 = .ok (.iaload, 1) := by decide +kernel
theorem k90_23 : decode (mB 90) 23 = .ok (.aaload, 1) := by decide +kernel
theorem k90_24 : decode (mB 90) 24 = .ok (.ldc 63, 2) ∧ tK (mO 90) 63 = some (-1000000) := by decide +kernel
theorem k90_26 : decode (mB 90) 26 = .ok (.putfield 64, 3) ∧ tF (mO 90) 64 = some (1, 5, 0, 0) := by decide +kernel
theorem k90_29 : decode (mB 90) 29 = .ok (.aload_n 0, 1) := by decide +kernel
theorem k90_30 : decode (mB 90) 30 = .ok (.getfield 24, 3) ∧ tF (mO 90) 24 = some (8, 4, 1, 1) := by decide +kernel
theorem k90_33 : decode (mB 90) 33 = .ok (.iload_n 1, 1) := by decide +kernel
theorem k90_34 : decode (mB 90) 34 = .ok (.ldc 63, 2) ∧ tK (mO 90) 63 = some (-1000000) := by decide +kernel
theorem k90_36 : decode (mB 90) 36 = .ok (.iastore, 1) := by decide +kernel
theorem k90_37 : decode (mB 90) 37 = .ok (.aload_n 0, 1) := by decide +kernel
theorem k90_38 : decode (mB 90) 38 = .ok (.getfield 27, 3) ∧ tF (mO 90) 27 = some (8, 5, 1, 1) := by decide +kernel
theorem k90_41 : decode (mB 90) 41 = .ok (.iload_n 1, 1) := by decide +kernel
theorem k90_42 : decode (mB 90) 42 = .ok (.ldc 63, 2) ∧ tK (mO 90) 63 = some (-1000000) := by decide +kernel
theorem k90_44 : decode (mB 90) 44 = .ok (.iastore, 1) := by decide +kernel
theorem k90_45 : decode (mB 90) 45 = .ok (.return_, 1) ∧ mR 90 = none := by decide +kernel
-- 91: ChairPast$Room.swapWithNext:(I)V, locals 4
theorem l91 : mL 91 = 4 := by decide +kernel
theorem k91_0 : decode (mB 91) 0 = .ok (.aload_n 0, 1) := by decide +kernel
theorem k91_1 : decode (mB 91) 1 = .ok (.getfield 11, 3) ∧ tF (mO 91) 11 = some (8, 1, 1, 1) := by decide +kernel
theorem k91_4 : decode (mB 91) 4 = .ok (.iload_n 1, 1) := by decide +kernel
theorem k91_5 : decode (mB 91) 5 = .ok (.aaload, 1) := by decide +kernel
theorem k91_6 : decode (mB 91) 6 = .ok (.astore_n 2, 1) := by decide +kernel
theorem k91_7 : decode (mB 91) 7 = .ok (.aload_n 0, 1) := by decide +kernel
theorem k91_8 : decode (mB 91) 8 = .ok (.getfield 11, 3) ∧ tF (mO 91) 11 = some (8, 1, 1, 1) := by decide +kernel
theorem k91_11 : decode (mB 91) 11 = .ok (.iload_n 1, 1) := by decide +kernel
theorem k91_12 : decode (mB 91) 12 = .ok (.aload_n 0, 1) := by decide +kernel
theorem k91_13 : decode (mB 91) 13 = .ok (.getfield 11, 3) ∧ tF (mO 91) 11 = some (8, 1, 1, 1) := by decide +kernel
theorem k91_16 : decode (mB 91) 16 = .ok (.iload_n 1, 1) := by decide +kernel
theorem k91_17 : decode (mB 91) 17 = .ok (.iconst 1, 1) := by decide +kernel
theorem k91_18 : decode (mB 91) 18 = .ok (.iadd, 1) := by decide +kernel
theorem k91_19 : decode (mB 91) 19 = .ok (.aaload, 1) := by decide +kernel
theorem k91_20 : decode (mB 91) 20 = .ok (.aastore, 1) := by decide +kernel
theorem k91_21 : decode (mB 91) 21 = .ok (.aload_n 0, 1) := by decide +kernel
theorem k91_22 : decode (mB 91) 22 = .ok (.getfield 11, 3) ∧ tF (mO 91) 11 = some (8, 1, 1, 1) := by decide +kernel
theorem k91_25 : decode (mB 91) 25 = .ok (.iload_n 1, 1) := by decide +kernel
theorem k91_26 : decode (mB 91) 26 = .ok (.iconst 1, 1) := by decide +kernel
theorem k91_27 : decode (mB 91) 27 = .ok (.iadd, 1) := by decide +kernel
theorem k91_28 : decode (mB 91) 28 = .ok (.aload_n 2, 1) := by decide +kernel
theorem k91_29 : decode (mB 91) 29 = .ok (.aastore, 1) := by decide +kernel
theorem k91_30 : decode (mB 91) 30 = .ok (.iload_n 1, 1) := by decide +kernel
theorem k91_31 : decode (mB 91) 31 = .ok (.istore_n 3, 1) := by decide +kernel
theorem k91_32 : decode (mB 91) 32 = .ok (.iload_n 3, 1) := by decide +kernel
theorem k91_33 : decode (mB 91) 33 = .ok (.iload_n 1, 1) := by decide +kernel
theorem k91_34 : decode (mB 91) 34 = .ok (.iconst 1, 1) := by decide +kernel
theorem k91_35 : decode (mB 91) 35 = .ok (.iadd, 1) := by decide +kernel
theorem k91_36 : decode (mB 91) 36 = .ok (.if_icmp .gt 40, 3) := by decide +kernel
theorem k91_39 : decode (mB 91) 39 = .ok (.aload_n 0, 1) := by decide +kernel
theorem k91_40 : decode (mB 91) 40 = .ok (.aload_n 0, 1) := by decide +kernel
theorem k91_41 : decode (mB 91) 41 = .ok (.getfield 11, 3) ∧ tF (mO 91) 11 = some (8, 1, 1, 1) := by decide +kernel
theorem k91_44 : decode (mB 91) 44 = .ok (.iload_n 3, 1) := by decide +kernel
theorem k91_45 : decode (mB 91) 45 = .ok (.aaload, 1) := by decide +kernel
theorem k91_46 : decode (mB 91) 46 = .ok (.getfield 64, 3) ∧ tF (mO 91) 64 = some (1, 5, 0, 0) := by decide +kernel
theorem k91_49 : decode (mB 91) 49 = .ok (.invokevirtual 79, 3) ∧ tVn (mO 91) 79 = some 1 ∧ tV (mO 91) 79 8 = some 85 := by decide +kernel
theorem k91_52 : decode (mB 91) 52 = .ok (.ifCond .eq 18, 3) := by decide +kernel
theorem k91_55 : decode (mB 91) 55 = .ok (.aload_n 0, 1) := by decide +kernel
theorem k91_56 : decode (mB 91) 56 = .ok (.getfield 24, 3) ∧ tF (mO 91) 24 = some (8, 4, 1, 1) := by decide +kernel
theorem k91_59 : decode (mB 91) 59 = .ok (.aload_n 0, 1) := by decide +kernel
theorem k91_60 : decode (mB 91) 60 = .ok (.getfield 11, 3) ∧ tF (mO 91) 11 = some (8, 1, 1, 1) := by decide +kernel
theorem k91_63 : decode (mB 91) 63 = .ok (.iload_n 3, 1) := by decide +kernel
theorem k91_64 : decode (mB 91) 64 = .ok (.aaload, 1) := by decide +kernel
theorem k91_65 : decode (mB 91) 65 = .ok (.getfield 64, 3) ∧ tF (mO 91) 64 = some (1, 5, 0, 0) := by decide +kernel
theorem k91_68 : decode (mB 91) 68 = .ok (.iload_n 3, 1) := by decide +kernel
theorem k91_69 : decode (mB 91) 69 = .ok (.iastore, 1) := by decide +kernel
theorem k91_70 : decode (mB 91) 70 = .ok (.iinc 3 1, 3) := by decide +kernel
theorem k91_73 : decode (mB 91) 73 = .ok (.goto (-41), 3) := by decide +kernel
theorem k91_76 : decode (mB 91) 76 = .ok (.return_, 1) ∧ mR 91 = none := by decide +kernel
-- 92: ChairPast$Room.peaceNow:()I, locals 3
theorem l92 : mL 92 = 3 := by decide +kernel
theorem k92_0 : decode (mB 92) 0 = .ok (.iconst 0, 1) := by decide +kernel
theorem k92_1 : decode (mB 92) 1 = .ok (.istore_n 1, 1) := by decide +kernel
theorem k92_2 : decode (mB 92) 2 = .ok (.iconst 0, 1) := by decide +kernel
theorem k92_3 : decode (mB 92) 3 = .ok (.istore_n 2, 1) := by decide +kernel
theorem k92_4 : decode (mB 92) 4 = .ok (.iload_n 2, 1) := by decide +kernel
theorem k92_5 : decode (mB 92) 5 = .ok (.iconst 1, 1) := by decide +kernel
theorem k92_6 : decode (mB 92) 6 = .ok (.iadd, 1) := by decide +kernel
theorem k92_7 : decode (mB 92) 7 = .ok (.aload_n 0, 1) := by decide +kernel
theorem k92_8 : decode (mB 92) 8 = .ok (.getfield 37, 3) ∧ tF (mO 92) 37 = some (8, 6, 0, 0) := by decide +kernel
theorem k92_11 : decode (mB 92) 11 = .ok (.if_icmp .ge 17, 3) := by decide +kernel
theorem k92_14 : decode (mB 92) 14 = .ok (.iload_n 1, 1) := by decide +kernel
theorem k92_15 : decode (mB 92) 15 = .ok (.aload_n 0, 1) := by decide +kernel
theorem k92_16 : decode (mB 92) 16 = .ok (.iload_n 2, 1) := by decide +kernel
theorem k92_17 : decode (mB 92) 17 = .ok (.invokevirtual 82, 3) ∧ tVn (mO 92) 82 = some 1 ∧ tV (mO 92) 82 8 = some 93 := by decide +kernel
theorem k92_20 : decode (mB 92) 20 = .ok (.iadd, 1) := by decide +kernel
theorem k92_21 : decode (mB 92) 21 = .ok (.istore_n 1, 1) := by decide +kernel
theorem k92_22 : decode (mB 92) 22 = .ok (.iinc 2 1, 3) := by decide +kernel
theorem k92_25 : decode (mB 92) 25 = .ok (.goto (-21), 3) := by decide +kernel
theorem k92_28 : decode (mB 92) 28 = .ok (.iconst 0, 1) := by decide +kernel
theorem k92_29 : decode (mB 92) 29 = .ok (.istore_n 2, 1) := by decide +kernel
theorem k92_30 : decode (mB 92) 30 = .ok (.iload_n 2, 1) := by decide +kernel
theorem k92_31 : decode (mB 92) 31 = .ok (.iconst 2, 1) := by decide +kernel
theorem k92_32 : decode (mB 92) 32 = .ok (.iadd, 1) := by decide +kernel
theorem k92_33 : decode (mB 92) 33 = .ok (.aload_n 0, 1) := by decide +kernel
theorem k92_34 : decode (mB 92) 34 = .ok (.getfield 37, 3) ∧ tF (mO 92) 37 = some (8, 6, 0, 0) := by decide +kernel
theorem k92_37 : decode (mB 92) 37 = .ok (.if_icmp .ge 52, 3) := by decide +kernel
theorem k92_40 : decode (mB 92) 40 = .ok (.aload_n 0, 1) := by decide +kernel
theorem k92_41 : decode (mB 92) 41 = .ok (.iload_n 2, 1) := by decide +kernel
theorem k92_42 : decode (mB 92) 42 = .ok (.invokevirtual 86, 3) ∧ tVn (mO 92) 86 = some 1 ∧ tV (mO 92) 86 8 = some 94 := by decide +kernel
theorem k92_45 : decode (mB 92) 45 = .ok (.ifCond .eq 38, 3) := by decide +kernel
theorem k92_48 : decode (mB 92) 48 = .ok (.aload_n 0, 1) := by decide +kernel
theorem k92_49 : decode (mB 92) 49 = .ok (.iload_n 2, 1) := by decide +kernel
theorem k92_50 : decode (mB 92) 50 = .ok (.invokevirtual 89, 3) ∧ tVn (mO 92) 89 = some 1 ∧ tV (mO 92) 89 8 = some 87 := by decide +kernel
theorem k92_53 : decode (mB 92) 53 = .ok (.ifCond .eq 30, 3) := by decide +kernel
theorem k92_56 : decode (mB 92) 56 = .ok (.aload_n 0, 1) := by decide +kernel
theorem k92_57 : decode (mB 92) 57 = .ok (.iload_n 2, 1) := by decide +kernel
theorem k92_58 : decode (mB 92) 58 = .ok (.iconst 1, 1) := by decide +kernel
theorem k92_59 : decode (mB 92) 59 = .ok (.iadd, 1) := by decide +kernel
theorem k92_60 : decode (mB 92) 60 = .ok (.invokevirtual 89, 3) ∧ tVn (mO 92) 89 = some 1 ∧ tV (mO 92) 89 8 = some 87 := by decide +kernel
theorem k92_63 : decode (mB 92) 63 = .ok (.ifCond .eq 20, 3) := by decide +kernel
theorem k92_66 : decode (mB 92) 66 = .ok (.aload_n 0, 1) := by decide +kernel
theorem k92_67 : decode (mB 92) 67 = .ok (.iload_n 2, 1) := by decide +kernel
theorem k92_68 : decode (mB 92) 68 = .ok (.iconst 2, 1) := by decide +kernel
theorem k92_69 : decode (mB 92) 69 = .ok (.iadd, 1) := by decide +kernel
theorem k92_70 : decode (mB 92) 70 = .ok (.invokevirtual 89, 3) ∧ tVn (mO 92) 89 = some 1 ∧ tV (mO 92) 89 8 = some 87 := by decide +kernel
theorem k92_73 : decode (mB 92) 73 = .ok (.ifCond .eq 10, 3) := by decide +kernel
theorem k92_76 : decode (mB 92) 76 = .ok (.iload_n 1, 1) := by decide +kernel
theorem k92_77 : decode (mB 92) 77 = .ok (.aload_n 0, 1) := by decide +kernel
theorem k92_78 : decode (mB 92) 78 = .ok (.getfield 44, 3) ∧ tF (mO 92) 44 = some (8, 8, 0, 0) := by decide +kernel
theorem k92_81 : decode (mB 92) 81 = .ok (.isub, 1) := by decide +kernel
theorem k92_82 : decode (mB 92) 82 = .ok (.istore_n 1, 1) := by decide +kernel
theorem k92_83 : decode (mB 92) 83 = .ok (.iinc 2 1, 3) := by decide +kernel
theorem k92_86 : decode (mB 92) 86 = .ok (.goto (-56), 3) := by decide +kernel
theorem k92_89 : decode (mB 92) 89 = .ok (.iload_n 1, 1) := by decide +kernel
theorem k92_90 : decode (mB 92) 90 = .ok (.ireturn, 1) ∧ mR 92 = (some .int) := by decide +kernel
