-- 93: ChairPast$Room.peaceBehind:(I)I, locals 4
theorem l93 : mL 93 = 4 := by decide +kernel
theorem k93_0 : decode (mB 93) 0 = .ok (.aload_n 0, 1) := by decide +kernel
theorem k93_1 : decode (mB 93) 1 = .ok (.getfield 11, 3) ∧ tF (mO 93) 11 = some (8, 1, 1, 1) := by decide +kernel
theorem k93_4 : decode (mB 93) 4 = .ok (.iload_n 1, 1) := by decide +kernel
theorem k93_5 : decode (mB 93) 5 = .ok (.aaload, 1) := by decide +kernel
theorem k93_6 : decode (mB 93) 6 = .ok (.getfield 64, 3) ∧ tF (mO 93) 64 = some (1, 5, 0, 0) := by decide +kernel
theorem k93_9 : decode (mB 93) 9 = .ok (.istore_n 2, 1) := by decide +kernel
theorem k93_10 : decode (mB 93) 10 = .ok (.aload_n 0, 1) := by decide +kernel
theorem k93_11 : decode (mB 93) 11 = .ok (.getfield 11, 3) ∧ tF (mO 93) 11 = some (8, 1, 1, 1) := by decide +kernel
theorem k93_14 : decode (mB 93) 14 = .ok (.iload_n 1, 1) := by decide +kernel
theorem k93_15 : decode (mB 93) 15 = .ok (.iconst 1, 1) := by decide +kernel
theorem k93_16 : decode (mB 93) 16 = .ok (.iadd, 1) := by decide +kernel
theorem k93_17 : decode (mB 93) 17 = .ok (.aaload, 1) := by decide +kernel
theorem k93_18 : decode (mB 93) 18 = .ok (.getfield 64, 3) ∧ tF (mO 93) 64 = some (1, 5, 0, 0) := by decide +kernel
theorem k93_21 : decode (mB 93) 21 = .ok (.istore_n 3, 1) := by decide +kernel
theorem k93_22 : decode (mB 93) 22 = .ok (.aload_n 0, 1) := by decide +kernel
theorem k93_23 : decode (mB 93) 23 = .ok (.iload_n 2, 1) := by decide +kernel
theorem k93_24 : decode (mB 93) 24 = .ok (.invokevirtual 79, 3) ∧ tVn (mO 93) 79 = some 1 ∧ tV (mO 93) 79 8 = some 85 := by decide +kernel
theorem k93_27 : decode (mB 93) 27 = .ok (.ifCond .eq 11, 3) := by decide +kernel
theorem k93_30 : decode (mB 93) 30 = .ok (.aload_n 0, 1) := by decide +kernel
theorem k93_31 : decode (mB 93) 31 = .ok (.iload_n 3, 1) := by decide +kernel
theorem k93_32 : decode (mB 93) 32 = .ok (.invokevirtual 79, 3) ∧ tVn (mO 93) 79 = some 1 ∧ tV (mO 93) 79 8 = some 85 := by decide +kernel
theorem k93_35 : decode (mB 93) 35 = .ok (.ifCond .ne 5, 3) := by decide +kernel
theorem k93_38 : decode (mB 93) 38 = .ok (.iconst 0, 1) := by decide +kernel
theorem k93_39 : decode (mB 93) 39 = .ok (.ireturn, 1) ∧ mR 93 = (some .int) := by decide +kernel
theorem k93_40 : decode (mB 93) 40 = .ok (.bipush 10, 2) := by decide +kernel
theorem k93_42 : decode (mB 93) 42 = .ok (.aload_n 0, 1) := by decide +kernel
theorem k93_43 : decode (mB 93) 43 = .ok (.getfield 27, 3) ∧ tF (mO 93) 27 = some (8, 5, 1, 1) := by decide +kernel
theorem k93_46 : decode (mB 93) 46 = .ok (.iload_n 2, 1) := by decide +kernel
theorem k93_47 : decode (mB 93) 47 = .ok (.iaload, 1) := by decide +kernel
theorem k93_48 : decode (mB 93) 48 = .ok (.aload_n 0, 1) := by decide +kernel
theorem k93_49 : decode (mB 93) 49 = .ok (.getfield 27, 3) ∧ tF (mO 93) 27 = some (8, 5, 1, 1) := by decide +kernel
theorem k93_52 : decode (mB 93) 52 = .ok (.iload_n 3, 1) := by decide +kernel
theorem k93_53 : decode (mB 93) 53 = .ok (.iaload, 1) := by decide +kernel
theorem k93_54 : decode (mB 93) 54 = .ok (.isub, 1) := by decide +kernel
theorem k93_55 : decode (mB 93) 55 = .ok (.invokestatic 92, 3) ∧ tM (mO 93) 92 = some 2 := by decide +kernel
theorem k93_58 : decode (mB 93) 58 = .ok (.isub, 1) := by decide +kernel
theorem k93_59 : decode (mB 93) 59 = .ok (.ireturn, 1) ∧ mR 93 = (some .int) := by decide +kernel
-- 94: ChairPast$Room.isTrio:(I)Z, locals 3
theorem l94 : mL 94 = 3 := by decide +kernel
theorem k94_0 : decode (mB 94) 0 = .ok (.aload_n 0, 1) := by decide +kernel
theorem k94_1 : decode (mB 94) 1 = .ok (.getfield 11, 3) ∧ tF (mO 94) 11 = some (8, 1, 1, 1) := by decide +kernel
theorem k94_4 : decode (mB 94) 4 = .ok (.iload_n 1, 1) := by decide +kernel
theorem k94_5 : decode (mB 94) 5 = .ok (.aaload, 1) := by decide +kernel
theorem k94_6 : decode (mB 94) 6 = .ok (.getfield 57, 3) ∧ tF (mO 94) 57 = some (1, 3, 0, 0) := by decide +kernel
theorem k94_9 : decode (mB 94) 9 = .ok (.istore_n 2, 1) := by decide +kernel
theorem k94_10 : decode (mB 94) 10 = .ok (.aload_n 0, 1) := by decide +kernel
theorem k94_11 : decode (mB 94) 11 = .ok (.getfield 11, 3) ∧ tF (mO 94) 11 = some (8, 1, 1, 1) := by decide +kernel
theorem k94_14 : decode (mB 94) 14 = .ok (.iload_n 1, 1) := by decide +kernel
theorem k94_15 : decode (mB 94) 15 = .ok (.iconst 1, 1) := by decide +kernel
theorem k94_16 : decode (mB 94) 16 = .ok (.iadd, 1) := by decide +kernel
theorem k94_17 : decode (mB 94) 17 = .ok (.aaload, 1) := by decide +kernel
theorem k94_18 : decode (mB 94) 18 = .ok (.getfield 57, 3) ∧ tF (mO 94) 57 = some (1, 3, 0, 0) := by decide +kernel
theorem k94_21 : decode (mB 94) 21 = .ok (.iload_n 2, 1) := by decide +kernel
theorem k94_22 : decode (mB 94) 22 = .ok (.if_icmp .ne 22, 3) := by decide +kernel
theorem k94_25 : decode (mB 94) 25 = .ok (.aload_n 0, 1) := by decide +kernel
theorem k94_26 : decode (mB 94) 26 = .ok (.getfield 11, 3) ∧ tF (mO 94) 11 = some (8, 1, 1, 1) := by decide +kernel
theorem k94_29 : decode (mB 94) 29 = .ok (.iload_n 1, 1) := by decide +kernel
theorem k94_30 : decode (mB 94) 30 = .ok (.iconst 2, 1) := by decide +kernel
theorem k94_31 : decode (mB 94) 31 = .ok (.iadd, 1) := by decide +kernel
theorem k94_32 : decode (mB 94) 32 = .ok (.aaload, 1) := by decide +kernel
theorem k94_33 : decode (mB 94) 33 = .ok (.getfield 57, 3) ∧ tF (mO 94) 57 = some (1, 3, 0, 0) := by decide +kernel
theorem k94_36 : decode (mB 94) 36 = .ok (.iload_n 2, 1) := by decide +kernel
theorem k94_37 : decode (mB 94) 37 = .ok (.if_icmp .ne 7, 3) := by decide +kernel
theorem k94_40 : decode (mB 94) 40 = .ok (.iconst 1, 1) := by decide +kernel
theorem k94_41 : decode (mB 94) 41 = .ok (.goto 4, 3) := by decide +kernel
theorem k94_44 : decode (mB 94) 44 = .ok (.iconst 0, 1) := by decide +kernel
theorem k94_45 : decode (mB 94) 45 = .ok (.ireturn, 1) ∧ mR 94 = (some .boolean) := by decide +kernel
-- 95: ChairPast$Room.trioCount:()I, locals 3
theorem l95 : mL 95 = 3 := by decide +kernel
theorem k95_0 : decode (mB 95) 0 = .ok (.iconst 0, 1) := by decide +kernel
theorem k95_1 : decode (mB 95) 1 = .ok (.istore_n 1, 1) := by decide +kernel
theorem k95_2 : decode (mB 95) 2 = .ok (.iconst 0, 1) := by decide +kernel
theorem k95_3 : decode (mB 95) 3 = .ok (.istore_n 2, 1) := by decide +kernel
theorem k95_4 : decode (mB 95) 4 = .ok (.iload_n 2, 1) := by decide +kernel
theorem k95_5 : decode (mB 95) 5 = .ok (.iconst 2, 1) := by decide +kernel
theorem k95_6 : decode (mB 95) 6 = .ok (.iadd, 1) := by decide +kernel
theorem k95_7 : decode (mB 95) 7 = .ok (.aload_n 0, 1) := by decide +kernel
theorem k95_8 : decode (mB 95) 8 = .ok (.getfield 37, 3) ∧ tF (mO 95) 37 = some (8, 6, 0, 0) := by decide +kernel
theorem k95_11 : decode (mB 95) 11 = .ok (.if_icmp .ge 20, 3) := by decide +kernel
theorem k95_14 : decode (mB 95) 14 = .ok (.aload_n 0, 1) := by decide +kernel
theorem k95_15 : decode (mB 95) 15 = .ok (.iload_n 2, 1) := by decide +kernel
theorem k95_16 : decode (mB 95) 16 = .ok (.invokevirtual 86, 3) ∧ tVn (mO 95) 86 = some 1 ∧ tV (mO 95) 86 8 = some 94 := by decide +kernel
theorem k95_19 : decode (mB 95) 19 = .ok (.ifCond .eq 6, 3) := by decide +kernel
theorem k95_22 : decode (mB 95) 22 = .ok (.iinc 1 1, 3) := by decide +kernel
theorem k95_25 : decode (mB 95) 25 = .ok (.iinc 2 1, 3) := by decide +kernel
theorem k95_28 : decode (mB 95) 28 = .ok (.goto (-24), 3) := by decide +kernel
theorem k95_31 : decode (mB 95) 31 = .ok (.iload_n 1, 1) := by decide +kernel
theorem k95_32 : decode (mB 95) 32 = .ok (.ireturn, 1) ∧ mR 95 = (some .int) := by decide +kernel
-- 96: ChairPast$Room.firstTrio:()I, locals 2
theorem l96 : mL 96 = 2 := by decide +kernel
theorem k96_0 : decode (mB 96) 0 = .ok (.iconst 0, 1) := by decide +kernel
theorem k96_1 : decode (mB 96) 1 = .ok (.istore_n 1, 1) := by decide +kernel
theorem k96_2 : decode (mB 96) 2 = .ok (.iload_n 1, 1) := by decide +kernel
theorem k96_3 : decode (mB 96) 3 = .ok (.iconst 2, 1) := by decide +kernel
theorem k96_4 : decode (mB 96) 4 = .ok (.iadd, 1) := by decide +kernel
theorem k96_5 : decode (mB 96) 5 = .ok (.aload_n 0, 1) := by decide +kernel
theorem k96_6 : decode (mB 96) 6 = .ok (.getfield 37, 3) ∧ tF (mO 96) 37 = some (8, 6, 0, 0) := by decide +kernel
theorem k96_9 : decode (mB 96) 9 = .ok (.if_icmp .ge 19, 3) := by decide +kernel
theorem k96_12 : decode (mB 96) 12 = .ok (.aload_n 0, 1) := by decide +kernel
theorem k96_13 : decode (mB 96) 13 = .ok (.iload_n 1, 1) := by decide +kernel
theorem k96_14 : decode (mB 96) 14 = .ok (.invokevirtual 86, 3) ∧ tVn (mO 96) 86 = some 1 ∧ tV (mO 96) 86 8 = some 94 := by decide +kernel
theorem k96_17 : decode (mB 96) 17 = .ok (.ifCond .eq 5, 3) := by decide +kernel
theorem k96_20 : decode (mB 96) 20 = .ok (.iload_n 1, 1) := by decide +kernel
theorem k96_21 : decode (mB 96) 21 = .ok (.ireturn, 1) ∧ mR 96 = (some .int) := by decide +kernel
theorem k96_22 : decode (mB 96) 22 = .ok (.iinc 1 1, 3) := by decide +kernel
theorem k96_25 : decode (mB 96) 25 = .ok (.goto (-23), 3) := by decide +kernel
theorem k96_28 : decode (mB 96) 28 = .ok (.ldc 63, 2) ∧ tK (mO 96) 63 = some (-1000000) := by decide +kernel
theorem k96_30 : decode (mB 96) 30 = .ok (.ireturn, 1) ∧ mR 96 = (some .int) := by decide +kernel
-- 97: ChairPast$Room.firstFree:()I, locals 2
theorem l97 : mL 97 = 2 := by decide +kernel
theorem k97_0 : decode (mB 97) 0 = .ok (.iconst 0, 1) := by decide +kernel
theorem k97_1 : decode (mB 97) 1 = .ok (.istore_n 1, 1) := by decide +kernel
theorem k97_2 : decode (mB 97) 2 = .ok (.iload_n 1, 1) := by decide +kernel
theorem k97_3 : decode (mB 97) 3 = .ok (.aload_n 0, 1) := by decide +kernel
theorem k97_4 : decode (mB 97) 4 = .ok (.getfield 37, 3) ∧ tF (mO 97) 37 = some (8, 6, 0, 0) := by decide +kernel
theorem k97_7 : decode (mB 97) 7 = .ok (.if_icmp .ge 19, 3) := by decide +kernel
theorem k97_10 : decode (mB 97) 10 = .ok (.aload_n 0, 1) := by decide +kernel
theorem k97_11 : decode (mB 97) 11 = .ok (.iload_n 1, 1) := by decide +kernel
theorem k97_12 : decode (mB 97) 12 = .ok (.invokevirtual 89, 3) ∧ tVn (mO 97) 89 = some 1 ∧ tV (mO 97) 89 8 = some 87 := by decide +kernel
theorem k97_15 : decode (mB 97) 15 = .ok (.ifCond .ne 5, 3) := by decide +kernel
theorem k97_18 : decode (mB 97) 18 = .ok (.iload_n 1, 1) := by decide +kernel
theorem k97_19 : decode (mB 97) 19 = .ok (.ireturn, 1) ∧ mR 97 = (some .int) := by decide +kernel
theorem k97_20 : decode (mB 97) 20 = .ok (.iinc 1 1, 3) := by decide +kernel
theorem k97_23 : decode (mB 97) 23 = .ok (.goto (-21), 3) := by decide +kernel
theorem k97_26 : decode (mB 97) 26 = .ok (.ldc 63, 2) ∧ tK (mO 97) 63 = some (-1000000) := by decide +kernel
theorem k97_28 : decode (mB 97) 28 = .ok (.ireturn, 1) ∧ mR 97 = (some .int) := by decide +kernel
-- 98: ChairPast$Room.seatedGuests:()I, locals 3
theorem l98 : mL 98 = 3 := by decide +kernel
theorem k98_0 : decode (mB 98) 0 = .ok (.iconst 0, 1) := by decide +kernel
theorem k98_1 : decode (mB 98) 1 = .ok (.istore_n 1, 1) := by decide +kernel
theorem k98_2 : decode (mB 98) 2 = .ok (.iconst 0, 1) := by decide +kernel
theorem k98_3 : decode (mB 98) 3 = .ok (.istore_n 2, 1) := by decide +kernel
theorem k98_4 : decode (mB 98) 4 = .ok (.iload_n 2, 1) := by decide +kernel
theorem k98_5 : decode (mB 98) 5 = .ok (.aload_n 0, 1) := by decide +kernel
theorem k98_6 : decode (mB 98) 6 = .ok (.getfield 41, 3) ∧ tF (mO 98) 41 = some (8, 7, 0, 0) := by decide +kernel
theorem k98_9 : decode (mB 98) 9 = .ok (.if_icmp .ge 23, 3) := by decide +kernel
theorem k98_12 : decode (mB 98) 12 = .ok (.aload_n 0, 1) := by decide +kernel
theorem k98_13 : decode (mB 98) 13 = .ok (.iload_n 2, 1) := by decide +kernel
theorem k98_14 : decode (mB 98) 14 = .ok (.invokevirtual 97, 3) ∧ tVn (mO 98) 97 = some 1 ∧ tV (mO 98) 97 8 = some 86 := by decide +kernel
theorem k98_17 : decode (mB 98) 17 = .ok (.ifCond .eq 9, 3) := by decide +kernel
theorem k98_20 : decode (mB 98) 20 = .ok (.iload_n 1, 1) := by decide +kernel
theorem k98_21 : decode (mB 98) 21 = .ok (.iconst 1, 1) := by decide +kernel
theorem k98_22 : decode (mB 98) 22 = .ok (.iload_n 2, 1) := by decide +kernel
theorem k98_23 : decode (mB 98) 23 = .ok (.ishl, 1) := by decide +kernel
theorem k98_24 : decode (mB 98) 24 = .ok (.ior, 1) := by decide +kernel
theorem k98_25 : decode (mB 98) 25 = .ok (.istore_n 1, 1) := by decide +kernel
theorem k98_26 : decode (mB 98) 26 = .ok (.iinc 2 1, 3) := by decide +kernel
theorem k98_29 : decode (mB 98) 29 = .ok (.goto (-25), 3) := by decide +kernel
theorem k98_32 : decode (mB 98) 32 = .ok (.iload_n 1, 1) := by decide +kernel
theorem k98_33 : decode (mB 98) 33 = .ok (.ireturn, 1) ∧ mR 98 = (some .int) := by decide +kernel
-- 99: ChairPast$Room.takenChairs:()I, locals 3
theorem l99 : mL 99 = 3 := by decide +kernel
theorem k99_0 : decode (mB 99) 0 = .ok (.iconst 0, 1) := by decide +kernel
theorem k99_1 : decode (mB 99) 1 = .ok (.istore_n 1, 1) := by decide +kernel
theorem k99_2 : decode (mB 99) 2 = .ok (.iconst 0, 1) := by decide +kernel
theorem k99_3 : decode (mB 99) 3 = .ok (.istore_n 2, 1) := by decide +kernel
theorem k99_4 : decode (mB 99) 4 = .ok (.iload_n 2, 1) := by decide +kernel
theorem k99_5 : decode (mB 99) 5 = .ok (.aload_n 0, 1) := by decide +kernel
theorem k99_6 : decode (mB 99) 6 = .ok (.getfield 37, 3) ∧ tF (mO 99) 37 = some (8, 6, 0, 0) := by decide +kernel
theorem k99_9 : decode (mB 99) 9 = .ok (.if_icmp .ge 23, 3) := by decide +kernel
theorem k99_12 : decode (mB 99) 12 = .ok (.aload_n 0, 1) := by decide +kernel
theorem k99_13 : decode (mB 99) 13 = .ok (.iload_n 2, 1) := by decide +kernel
theorem k99_14 : decode (mB 99) 14 = .ok (.invokevirtual 89, 3) ∧ tVn (mO 99) 89 = some 1 ∧ tV (mO 99) 89 8 = some 87 := by decide +kernel
theorem k99_17 : decode (mB 99) 17 = .ok (.ifCond .eq 9, 3) := by decide +kernel
theorem k99_20 : decode (mB 99) 20 = .ok (.iload_n 1, 1) := by decide +kernel
theorem k99_21 : decode (mB 99) 21 = .ok (.iconst 1, 1) := by decide +kernel
theorem k99_22 : decode (mB 99) 22 = .ok (.iload_n 2, 1) := by decide +kernel
theorem k99_23 : decode (mB 99) 23 = .ok (.ishl, 1) := by decide +kernel
theorem k99_24 : decode (mB 99) 24 = .ok (.ior, 1) := by decide +kernel
theorem k99_25 : decode (mB 99) 25 = .ok (.istore_n 1, 1) := by decide +kernel
theorem k99_26 : decode (mB 99) 26 = .ok (.iinc 2 1, 3) := by decide +kernel
theorem k99_29 : decode (mB 99) 29 = .ok (.goto (-25), 3) := by decide +kernel
theorem k99_32 : decode (mB 99) 32 = .ok (.iload_n 1, 1) := by decide +kernel
theorem k99_33 : decode (mB 99) 33 = .ok (.ireturn, 1) ∧ mR 99 = (some .int) := by decide +kernel
-- 100: ChairPast$Room.allManners:()I, locals 3
theorem l100 : mL 100 = 3 := by decide +kernel
theorem k100_0 : decode (mB 100) 0 = .ok (.iconst 0, 1) := by decide +kernel
theorem k100_1 : decode (mB 100) 1 = .ok (.istore_n 1, 1) := by decide +kernel
theorem k100_2 : decode (mB 100) 2 = .ok (.iconst 0, 1) := by decide +kernel
theorem k100_3 : decode (mB 100) 3 = .ok (.istore_n 2, 1) := by decide +kernel
theorem k100_4 : decode (mB 100) 4 = .ok (.iload_n 2, 1) := by decide +kernel
theorem k100_5 : decode (mB 100) 5 = .ok (.aload_n 0, 1) := by decide +kernel
theorem k100_6 : decode (mB 100) 6 = .ok (.getfield 37, 3) ∧ tF (mO 100) 37 = some (8, 6, 0, 0) := by decide +kernel
theorem k100_9 : decode (mB 100) 9 = .ok (.if_icmp .ge 21, 3) := by decide +kernel
theorem k100_12 : decode (mB 100) 12 = .ok (.iload_n 1, 1) := by decide +kernel
theorem k100_13 : decode (mB 100) 13 = .ok (.aload_n 0, 1) := by decide +kernel
theorem k100_14 : decode (mB 100) 14 = .ok (.getfield 11, 3) ∧ tF (mO 100) 11 = some (8, 1, 1, 1) := by decide +kernel
theorem k100_17 : decode (mB 100) 17 = .ok (.iload_n 2, 1) := by decide +kernel
theorem k100_18 : decode (mB 100) 18 = .ok (.aaload, 1) := by decide +kernel
theorem k100_19 : decode (mB 100) 19 = .ok (.getfield 51, 3) ∧ tF (mO 100) 51 = some (1, 1, 0, 0) := by decide +kernel
theorem k100_22 : decode (mB 100) 22 = .ok (.iadd, 1) := by decide +kernel
theorem k100_23 : decode (mB 100) 23 = .ok (.istore_n 1, 1) := by decide +kernel
theorem k100_24 : decode (mB 100) 24 = .ok (.iinc 2 1, 3) := by decide +kernel
theorem k100_27 : decode (mB 100) 27 = .ok (.goto (-23), 3) := by decide +kernel
theorem k100_30 : decode (mB 100) 30 = .ok (.iload_n 1, 1) := by decide +kernel
theorem k100_31 : decode (mB 100) 31 = .ok (.ireturn, 1) ∧ mR 100 = (some .int) := by decide +kernel
-- 101: ChairPast$Room.writeTo:(LChairPast$Line;)V, locals 3
theorem l101 : mL 101 = 3 := by decide +kernel
theorem k101_0 : decode (mB 101) 0 = .ok (.aload_n 1, 1) := by decide +kernel
theorem k101_1 : decode (mB 101) 1 = .ok (.invokevirtual 100, 3) ∧ tVn (mO 101) 100 = some 0 ∧ tV (mO 101) 100 4 = some 46 := by decide +kernel
theorem k101_4 : decode (mB 101) 4 = .ok (.aload_n 1, 1) := by decide +kernel
theorem k101_5 : decode (mB 101) 5 = .ok (.aload_n 0, 1) := by decide +kernel
theorem k101_6 : decode (mB 101) 6 = .ok (.getfield 37, 3) ∧ tF (mO 101) 37 = some (8, 6, 0, 0) := by decide +kernel
theorem k101_9 : decode (mB 101) 9 = .ok (.invokevirtual 105, 3) ∧ tVn (mO 101) 105 = some 1 ∧ tV (mO 101) 105 4 = some 47 := by decide +kernel
theorem k101_12 : decode (mB 101) 12 = .ok (.pop, 1) := by decide +kernel
theorem k101_13 : decode (mB 101) 13 = .ok (.aload_n 1, 1) := by decide +kernel
theorem k101_14 : decode (mB 101) 14 = .ok (.aload_n 0, 1) := by decide +kernel
theorem k101_15 : decode (mB 101) 15 = .ok (.getfield 41, 3) ∧ tF (mO 101) 41 = some (8, 7, 0, 0) := by decide +kernel
theorem k101_18 : decode (mB 101) 18 = .ok (.invokevirtual 105, 3) ∧ tVn (mO 101) 105 = some 1 ∧ tV (mO 101) 105 4 = some 47 := by decide +kernel
theorem k101_21 : decode (mB 101) 21 = .ok (.pop, 1) := by decide +kernel
theorem k101_22 : decode (mB 101) 22 = .ok (.aload_n 1, 1) := by decide +kernel
theorem k101_23 : decode (mB 101) 23 = .ok (.aload_n 0, 1) := by decide +kernel
theorem k101_24 : decode (mB 101) 24 = .ok (.getfield 44, 3) ∧ tF (mO 101) 44 = some (8, 8, 0, 0) := by decide +kernel
theorem k101_27 : decode (mB 101) 27 = .ok (.invokevirtual 105, 3) ∧ tVn (mO 101) 105 = some 1 ∧ tV (mO 101) 105 4 = some 47 := by decide +kernel
theorem k101_30 : decode (mB 101) 30 = .ok (.pop, 1) := by decide +kernel
theorem k101_31 : decode (mB 101) 31 = .ok (.iconst 0, 1) := by decide +kernel
theorem k101_32 : decode (mB 101) 32 = .ok (.istore_n 2, 1) := by decide +kernel
theorem k101_33 : decode (mB 101) 33 = .ok (.iload_n 2, 1) := by decide +kernel
theorem k101_34 : decode (mB 101) 34 = .ok (.iconst 5, 1) := by decide +kernel
theorem k101_35 : decode (mB 101) 35 = .ok (.if_icmp .ge 19, 3) := by decide +kernel
theorem k101_38 : decode (mB 101) 38 = .ok (.aload_n 0, 1) := by decide +kernel
theorem k101_39 : decode (mB 101) 39 = .ok (.getfield 11, 3) ∧ tF (mO 101) 11 = some (8, 1, 1, 1) := by decide +kernel
theorem k101_42 : decode (mB 101) 42 = .ok (.iload_n 2, 1) := by decide +kernel
theorem k101_43 : decode (mB 101) 43 = .ok (.aaload, 1) := by decide +kernel
theorem k101_44 : decode (mB 101) 44 = .ok (.aload_n 1, 1) := by decide +kernel
theorem k101_45 : decode (mB 101) 45 = .ok (.invokevirtual 108, 3) ∧ tVn (mO 101) 108 = some 1 ∧ tV (mO 101) 108 1 = some 11 := by decide +kernel
theorem k101_48 : decode (mB 101) 48 = .ok (.iinc 2 1, 3) := by decide +kernel
theorem k101_51 : decode (mB 101) 51 = .ok (.goto (-18), 3) := by decide +kernel
theorem k101_54 : decode (mB 101) 54 = .ok (.iconst 0, 1) := by decide +kernel
theorem k101_55 : decode (mB 101) 55 = .ok (.istore_n 2, 1) := by decide +kernel
theorem k101_56 : decode (mB 101) 56 = .ok (.iload_n 2, 1) := by decide +kernel
theorem k101_57 : decode (mB 101) 57 = .ok (.iconst 5, 1) := by decide +kernel
theorem k101_58 : decode (mB 101) 58 = .ok (.if_icmp .ge 53, 3) := by decide +kernel
theorem k101_61 : decode (mB 101) 61 = .ok (.aload_n 1, 1) := by decide +kernel
theorem k101_62 : decode (mB 101) 62 = .ok (.aload_n 0, 1) := by decide +kernel
theorem k101_63 : decode (mB 101) 63 = .ok (.getfield 17, 3) ∧ tF (mO 101) 17 = some (8, 2, 1, 1) := by decide +kernel
theorem k101_66 : decode (mB 101) 66 = .ok (.iload_n 2, 1) := by decide +kernel
theorem k101_67 : decode (mB 101) 67 = .ok (.iaload, 1) := by decide +kernel
theorem k101_68 : decode (mB 101) 68 = .ok (.invokevirtual 105, 3) ∧ tVn (mO 101) 105 = some 1 ∧ tV (mO 101) 105 4 = some 47 := by decide +kernel
theorem k101_71 : decode (mB 101) 71 = .ok (.pop, 1) := by decide +kernel
theorem k101_72 : decode (mB 101) 72 = .ok (.aload_n 1, 1) := by decide +kernel
theorem k101_73 : decode (mB 101) 73 = .ok (.aload_n 0, 1) := by decide +kernel
theorem k101_74 : decode (mB 101) 74 = .ok (.getfield 21, 3) ∧ tF (mO 101) 21 = some (8, 3, 1, 1) := by decide +kernel
theorem k101_77 : decode (mB 101) 77 = .ok (.iload_n 2, 1) := by decide +kernel
theorem k101_78 : decode (mB 101) 78 = .ok (.iaload, 1) := by decide +kernel
theorem k101_79 : decode (mB 101) 79 = .ok (.invokevirtual 105, 3) ∧ tVn (mO 101) 105 = some 1 ∧ tV (mO 101) 105 4 = some 47 := by decide +kernel
theorem k101_82 : decode (mB 101) 82 = .ok (.pop, 1) := by decide +kernel
theorem k101_83 : decode (mB 101) 83 = .ok (.aload_n 1, 1) := by decide +kernel
theorem k101_84 : decode (mB 101) 84 = .ok (.aload_n 0, 1) := by decide +kernel
theorem k101_85 : decode (mB 101) 85 = .ok (.getfield 24, 3) ∧ tF (mO 101) 24 = some (8, 4, 1, 1) := by decide +kernel
theorem k101_88 : decode (mB 101) 88 = .ok (.iload_n 2, 1) := by decide +kernel
theorem k101_89 : decode (mB 101) 89 = .ok (.iaload, 1) := by decide +kernel
theorem k101_90 : decode (mB 101) 90 = .ok (.invokevirtual 105, 3) ∧ tVn (mO 101) 105 = some 1 ∧ tV (mO 101) 105 4 = some 47 := by decide +kernel
theorem k101_93 : decode (mB 101) 93 = .ok (.pop, 1) := by decide +kernel
theorem k101_94 : decode (mB 101) 94 = .ok (.aload_n 1, 1) := by decide +kernel
theorem k101_95 : decode (mB 101) 95 = .ok (.aload_n 0, 1) := by decide +kernel
theorem k101_96 : decode (mB 101) 96 = .ok (.getfield 27, 3) ∧ tF (mO 101) 27 = some (8, 5, 1, 1) := by decide +kernel
theorem k101_99 : decode (mB 101) 99 = .ok (.iload_n 2, 1) := by decide +kernel
theorem k101_100 : decode (mB 101) 100 = .ok (.iaload, 1) := by decide +kernel
theorem k101_101 : decode (mB 101) 101 = .ok (.invokevirtual 105, 3) ∧ tVn (mO 101) 105 = some 1 ∧ tV (mO 101) 105 4 = some 47 := by decide +kernel
theorem k101_104 : decode (mB 101) 104 = .ok (.pop, 1) := by decide +kernel
theorem k101_105 : decode (mB 101) 105 = .ok (.iinc 2 1, 3) := by decide +kernel
theorem k101_108 : decode (mB 101) 108 = .ok (.goto (-52), 3) := by decide +kernel
theorem k101_111 : decode (mB 101) 111 = .ok (.return_, 1) ∧ mR 101 = none := by decide +kernel
-- 102: ChairPast$Room.readFrom:(LChairPast$Line;)V, locals 3
theorem l102 : mL 102 = 3 := by decide +kernel
theorem k102_0 : decode (mB 102) 0 = .ok (.aload_n 1, 1) := by decide +kernel
theorem k102_1 : decode (mB 102) 1 = .ok (.invokevirtual 112, 3) ∧ tVn (mO 102) 112 = some 0 ∧ tV (mO 102) 112 4 = some 50 := by decide +kernel
theorem k102_4 : decode (mB 102) 4 = .ok (.aload_n 0, 1) := by decide +kernel
theorem k102_5 : decode (mB 102) 5 = .ok (.aload_n 1, 1) := by decide +kernel
theorem k102_6 : decode (mB 102) 6 = .ok (.invokevirtual 115, 3) ∧ tVn (mO 102) 115 = some 0 ∧ tV (mO 102) 115 4 = some 51 := by decide +kernel
theorem k102_9 : decode (mB 102) 9 = .ok (.putfield 37, 3) ∧ tF (mO 102) 37 = some (8, 6, 0, 0) := by decide +kernel
theorem k102_12 : decode (mB 102) 12 = .ok (.aload_n 0, 1) := by decide +kernel
theorem k102_13 : decode (mB 102) 13 = .ok (.aload_n 1, 1) := by decide +kernel
theorem k102_14 : decode (mB 102) 14 = .ok (.invokevirtual 115, 3) ∧ tVn (mO 102) 115 = some 0 ∧ tV (mO 102) 115 4 = some 51 := by decide +kernel
theorem k102_17 : decode (mB 102) 17 = .ok (.putfield 41, 3) ∧ tF (mO 102) 41 = some (8, 7, 0, 0) := by decide +kernel
theorem k102_20 : decode (mB 102) 20 = .ok (.aload_n 0, 1) := by decide +kernel
theorem k102_21 : decode (mB 102) 21 = .ok (.aload_n 1, 1) := by decide +kernel
theorem k102_22 : decode (mB 102) 22 = .ok (.invokevirtual 115, 3) ∧ tVn (mO 102) 115 = some 0 ∧ tV (mO 102) 115 4 = some 51 := by decide +kernel
theorem k102_25 : decode (mB 102) 25 = .ok (.putfield 44, 3) ∧ tF (mO 102) 44 = some (8, 8, 0, 0) := by decide +kernel
theorem k102_28 : decode (mB 102) 28 = .ok (.iconst 0, 1) := by decide +kernel
theorem k102_29 : decode (mB 102) 29 = .ok (.istore_n 2, 1) := by decide +kernel
theorem k102_30 : decode (mB 102) 30 = .ok (.iload_n 2, 1) := by decide +kernel
theorem k102_31 : decode (mB 102) 31 = .ok (.iconst 5, 1) := by decide +kernel
theorem k102_32 : decode (mB 102) 32 = .ok (.if_icmp .ge 23, 3) := by decide +kernel
theorem k102_35 : decode (mB 102) 35 = .ok (.aload_n 0, 1) := by decide +kernel
theorem k102_36 : decode (mB 102) 36 = .ok (.getfield 11, 3) ∧ tF (mO 102) 11 = some (8, 1, 1, 1) := by decide +kernel
theorem k102_39 : decode (mB 102) 39 = .ok (.iload_n 2, 1) := by decide +kernel
theorem k102_40 : decode (mB 102) 40 = .ok (.aaload, 1) := by decide +kernel
theorem k102_41 : decode (mB 102) 41 = .ok (.aload_n 1, 1) := by decide +kernel
theorem k102_42 : decode (mB 102) 42 = .ok (.aload_n 0, 1) := by decide +kernel
theorem k102_43 : decode (mB 102) 43 = .ok (.getfield 30, 3) ∧ tF (mO 102) 30 = some (8, 0, 1, 1) := by decide +kernel
theorem k102_46 : decode (mB 102) 46 = .ok (.invokevirtual 119, 3) ∧ tVn (mO 102) 119 = some 2 ∧ tV (mO 102) 119 1 = some 12 := by decide +kernel
theorem k102_49 : decode (mB 102) 49 = .ok (.iinc 2 1, 3) := by decide +kernel
theorem k102_52 : decode (mB 102) 52 = .ok (.goto (-22), 3) := by decide +kernel
theorem k102_55 : decode (mB 102) 55 = .ok (.iconst 0, 1) := by decide +kernel
theorem k102_56 : decode (mB 102) 56 = .ok (.istore_n 2, 1) := by decide +kernel
theorem k102_57 : decode (mB 102) 57 = .ok (.iload_n 2, 1) := by decide +kernel
theorem k102_58 : decode (mB 102) 58 = .ok (.iconst 5, 1) := by decide +kernel
theorem k102_59 : decode (mB 102) 59 = .ok (.if_icmp .ge 49, 3) := by decide +kernel
theorem k102_62 : decode (mB 102) 62 = .ok (.aload_n 0, 1) := by decide +kernel
theorem k102_63 : decode (mB 102) 63 = .ok (.getfield 17, 3) ∧ tF (mO 102) 17 = some (8, 2, 1, 1) := by decide +kernel
theorem k102_66 : decode (mB 102) 66 = .ok (.iload_n 2, 1) := by decide +kernel
theorem k102_67 : decode (mB 102) 67 = .ok (.aload_n 1, 1) := by decide +kernel
theorem k102_68 : decode (mB 102) 68 = .ok (.invokevirtual 115, 3) ∧ tVn (mO 102) 115 = some 0 ∧ tV (mO 102) 115 4 = some 51 := by decide +kernel
theorem k102_71 : decode (mB 102) 71 = .ok (.iastore, 1) := by decide +kernel
theorem k102_72 : decode (mB 102) 72 = .ok (.aload_n 0, 1) := by decide +kernel
theorem k102_73 : decode (mB 102) 73 = .ok (.getfield 21, 3) ∧ tF (mO 102) 21 = some (8, 3, 1, 1) := by decide +kernel
theorem k102_76 : decode (mB 102) 76 = .ok (.iload_n 2, 1) := by decide +kernel
theorem k102_77 : decode (mB 102) 77 = .ok (.aload_n 1, 1) := by decide +kernel
theorem k102_78 : decode (mB 102) 78 = .ok (.invokevirtual 115, 3) ∧ tVn (mO 102) 115 = some 0 ∧ tV (mO 102) 115 4 = some 51 := by decide +kernel
theorem k102_81 : decode (mB 102) 81 = .ok (.iastore, 1) := by decide +kernel
theorem k102_82 : decode (mB 102) 82 = .ok (.aload_n 0, 1) := by decide +kernel
theorem k102_83 : decode (mB 102) 83 = .ok (.getfield 24, 3) ∧ tF (mO 102) 24 = some (8, 4, 1, 1) := by decide +kernel
theorem k102_86 : decode (mB 102) 86 = .ok (.iload_n 2, 1) := by decide +kernel
theorem k102_87 : decode (mB 102) 87 = .ok (.aload_n 1, 1) := by decide +kernel
theorem k102_88 : decode (mB 102) 88 = .ok (.invokevirtual 115, 3) ∧ tVn (mO 102) 115 = some 0 ∧ tV (mO 102) 115 4 = some 51 := by decide +kernel
theorem k102_91 : decode (mB 102) 91 = .ok (.iastore, 1) := by decide +kernel
theorem k102_92 : decode (mB 102) 92 = .ok (.aload_n 0, 1) := by decide +kernel
theorem k102_93 : decode (mB 102) 93 = .ok (.getfield 27, 3) ∧ tF (mO 102) 27 = some (8, 5, 1, 1) := by decide +kernel
theorem k102_96 : decode (mB 102) 96 = .ok (.iload_n 2, 1) := by decide +kernel
theorem k102_97 : decode (mB 102) 97 = .ok (.aload_n 1, 1) := by decide +kernel
theorem k102_98 : decode (mB 102) 98 = .ok (.invokevirtual 115, 3) ∧ tVn (mO 102) 115 = some 0 ∧ tV (mO 102) 115 4 = some 51 := by decide +kernel
theorem k102_101 : decode (mB 102) 101 = .ok (.iastore, 1) := by decide +kernel
theorem k102_102 : decode (mB 102) 102 = .ok (.iinc 2 1, 3) := by decide +kernel
theorem k102_105 : decode (mB 102) 105 = .ok (.goto (-48), 3) := by decide +kernel
theorem k102_108 : decode (mB 102) 108 = .ok (.return_, 1) ∧ mR 102 = none := by decide +kernel
-- 104: ChairPast$Throne.number:()I, locals 1
theorem l104 : mL 104 = 1 := by decide +kernel
theorem k104_0 : decode (mB 104) 0 = .ok (.iconst 4, 1) := by decide +kernel
theorem k104_1 : decode (mB 104) 1 = .ok (.ireturn, 1) ∧ mR 104 = (some .int) := by decide +kernel
-- 105: ChairPast$Throne.bearingOn:(LChairPast$Chair;I)I, locals 3
theorem l105 : mL 105 = 3 := by decide +kernel
theorem k105_0 : decode (mB 105) 0 = .ok (.aload_n 1, 1) := by decide +kernel
theorem k105_1 : decode (mB 105) 1 = .ok (.getfield 7, 3) ∧ tF (mO 105) 7 = some (1, 2, 0, 0) := by decide +kernel
theorem k105_4 : decode (mB 105) 4 = .ok (.ifCond .ne 7, 3) := by decide +kernel
theorem k105_7 : decode (mB 105) 7 = .ok (.iload_n 2, 1) := by decide +kernel
theorem k105_8 : decode (mB 105) 8 = .ok (.goto 7, 3) := by decide +kernel
theorem k105_11 : decode (mB 105) 11 = .ok (.aload_n 1, 1) := by decide +kernel
theorem k105_12 : decode (mB 105) 12 = .ok (.getfield 13, 3) ∧ tF (mO 105) 13 = some (1, 1, 0, 0) := by decide +kernel
theorem k105_15 : decode (mB 105) 15 = .ok (.ireturn, 1) ∧ mR 105 = (some .int) := by decide +kernel
-- 106: ChairPast$Throne.wear:(LChairPast$Chair;)V, locals 2
theorem l106 : mL 106 = 2 := by decide +kernel
theorem k106_0 : decode (mB 106) 0 = .ok (.return_, 1) ∧ mR 106 = none := by decide +kernel
-- 107: ChairPast$Throne.sizeOf:(LChairPast$Chair;LChairPast$Line;)I, locals 3
theorem l107 : mL 107 = 3 := by decide +kernel
theorem k107_0 : decode (mB 107) 0 = .ok (.aload_n 2, 1) := by decide +kernel
theorem k107_1 : decode (mB 107) 1 = .ok (.bipush 13, 2) := by decide +kernel
theorem k107_3 : decode (mB 107) 3 = .ok (.invokevirtual 16, 3) ∧ tVn (mO 107) 16 = some 1 ∧ tV (mO 107) 16 4 = some 47 := by decide +kernel
theorem k107_6 : decode (mB 107) 6 = .ok (.pop, 1) := by decide +kernel
theorem k107_7 : decode (mB 107) 7 = .ok (.aload_n 0, 1) := by decide +kernel
theorem k107_8 : decode (mB 107) 8 = .ok (.aload_n 1, 1) := by decide +kernel
theorem k107_9 : decode (mB 107) 9 = .ok (.aload_n 2, 1) := by decide +kernel
theorem k107_10 : decode (mB 107) 10 = .ok (.invokespecial 22, 3) ∧ tB (mO 107) 22 = false ∧ tI (mO 107) 22 = none ∧ tJ (mO 107) 22 = none ∧ tP (mO 107) 22 = some 43 := by decide +kernel
theorem k107_13 : decode (mB 107) 13 = .ok (.bipush 100, 2) := by decide +kernel
theorem k107_15 : decode (mB 107) 15 = .ok (.isub, 1) := by decide +kernel
theorem k107_16 : decode (mB 107) 16 = .ok (.ireturn, 1) ∧ mR 107 = (some .int) := by decide +kernel
-- 108: ChairPast$Throne.markOf:(LChairPast$Chair;LChairPast$Line;)I, locals 4
theorem l108 : mL 108 = 4 := by decide +kernel
theorem k108_0 : decode (mB 108) 0 = .ok (.aload_n 2, 1) := by decide +kernel
theorem k108_1 : decode (mB 108) 1 = .ok (.bipush 23, 2) := by decide +kernel
theorem k108_3 : decode (mB 108) 3 = .ok (.invokevirtual 16, 3) ∧ tVn (mO 108) 16 = some 1 ∧ tV (mO 108) 16 4 = some 47 := by decide +kernel
theorem k108_6 : decode (mB 108) 6 = .ok (.pop, 1) := by decide +kernel
theorem k108_7 : decode (mB 108) 7 = .ok (.aload_n 0, 1) := by decide +kernel
theorem k108_8 : decode (mB 108) 8 = .ok (.aload_n 1, 1) := by decide +kernel
theorem k108_9 : decode (mB 108) 9 = .ok (.aload_n 2, 1) := by decide +kernel
theorem k108_10 : decode (mB 108) 10 = .ok (.invokespecial 26, 3) ∧ tB (mO 108) 26 = false ∧ tI (mO 108) 26 = none ∧ tJ (mO 108) 26 = none ∧ tP (mO 108) 26 = some 44 := by decide +kernel
theorem k108_13 : decode (mB 108) 13 = .ok (.istore_n 3, 1) := by decide +kernel
theorem k108_14 : decode (mB 108) 14 = .ok (.iload_n 3, 1) := by decide +kernel
theorem k108_15 : decode (mB 108) 15 = .ok (.aload_n 0, 1) := by decide +kernel
theorem k108_16 : decode (mB 108) 16 = .ok (.aload_n 1, 1) := by decide +kernel
theorem k108_17 : decode (mB 108) 17 = .ok (.aload_n 2, 1) := by decide +kernel
theorem k108_18_9 : decode (mB 108) 18 = .ok (.invokevirtual 29, 3) ∧ tVn (mO 108) 29 = some 2 ∧ tV (mO 108) 29 9 = some 107 := by decide +kernel
theorem k108_18_2 : decode (mB 108) 18 = .ok (.invokevirtual 29, 3) ∧ tVn (mO 108) 29 = some 2 ∧ tV (mO 108) 29 2 = some 16 := by decide +kernel
theorem k108_21 : decode (mB 108) 21 = .ok (.isub, 1) := by decide +kernel
theorem k108_22 : decode (mB 108) 22 = .ok (.ireturn, 1) ∧ mR 108 = (some .int) := by decide +kernel
-- 110: ChairPast.row:(III)I, locals 5
theorem l110 : mL 110 = 5 := by decide +kernel
theorem k110_0 : decode (mB 110) 0 = .ok (.iload_n 1, 1) := by decide +kernel
theorem k110_1 : decode (mB 110) 1 = .ok (.invokestatic 74, 3) ∧ tM (mO 110) 74 = none ∧ tS (mO 110) 74 = some 144 := by decide +kernel
theorem k110_4 : decode (mB 110) 4 = .ok (.ifCond .eq 18, 3) := by decide +kernel
theorem k110_7 : decode (mB 110) 7 = .ok (.iload_n 2, 1) := by decide +kernel
theorem k110_8 : decode (mB 110) 8 = .ok (.iconst 0, 1) := by decide +kernel
theorem k110_9 : decode (mB 110) 9 = .ok (.iconst 2, 1) := by decide +kernel
theorem k110_10 : decode (mB 110) 10 = .ok (.invokestatic 78, 3) ∧ tM (mO 110) 78 = none ∧ tS (mO 110) 78 = some 143 := by decide +kernel
theorem k110_13 : decode (mB 110) 13 = .ok (.ifCond .eq 9, 3) := by decide +kernel
theorem k110_16 : decode (mB 110) 16 = .ok (.iload_n 3, 1) := by decide +kernel
theorem k110_17 : decode (mB 110) 17 = .ok (.bipush 40, 2) := by decide +kernel
theorem k110_19 : decode (mB 110) 19 = .ok (.if_icmp .le 6, 3) := by decide +kernel
theorem k110_22 : decode (mB 110) 22 = .ok (.ldc 82, 2) ∧ tK (mO 110) 82 = some (-1000001) := by decide +kernel
theorem k110_24 : decode (mB 110) 24 = .ok (.ireturn, 1) ∧ mR 110 = (some .int) := by decide +kernel
theorem k110_25 : decode (mB 110) 25 = .ok (.iload_n 3, 1) := by decide +kernel
theorem k110_26 : decode (mB 110) 26 = .ok (.ifCond .ge 9, 3) := by decide +kernel
theorem k110_29 : decode (mB 110) 29 = .ok (.aload_n 0, 1) := by decide +kernel
theorem k110_30 : decode (mB 110) 30 = .ok (.iconst 4, 1) := by decide +kernel
theorem k110_31 : decode (mB 110) 31 = .ok (.invokevirtual 83, 3) ∧ tVn (mO 110) 83 = some 1 ∧ tV (mO 110) 83 10 = some 149 := by decide +kernel
theorem k110_34 : decode (mB 110) 34 = .ok (.ireturn, 1) ∧ mR 110 = (some .int) := by decide +kernel
theorem k110_35 : decode (mB 110) 35 = .ok (.aload_n 0, 1) := by decide +kernel
theorem k110_36 : decode (mB 110) 36 = .ok (.getfield 15, 3) ∧ tF (mO 110) 15 = some (10, 1, 1, 1) := by decide +kernel
theorem k110_39 : decode (mB 110) 39 = .ok (.iload_n 1, 1) := by decide +kernel
theorem k110_40 : decode (mB 110) 40 = .ok (.iload_n 2, 1) := by decide +kernel
theorem k110_41 : decode (mB 110) 41 = .ok (.iastore, 1) := by decide +kernel
theorem k110_42 : decode (mB 110) 42 = .ok (.aload_n 0, 1) := by decide +kernel
theorem k110_43 : decode (mB 110) 43 = .ok (.getfield 11, 3) ∧ tF (mO 110) 11 = some (10, 0, 1, 1) := by decide +kernel
theorem k110_46 : decode (mB 110) 46 = .ok (.iload_n 1, 1) := by decide +kernel
theorem k110_47 : decode (mB 110) 47 = .ok (.aaload, 1) := by decide +kernel
theorem k110_48 : decode (mB 110) 48 = .ok (.invokevirtual 87, 3) ∧ tVn (mO 110) 87 = some 0 ∧ tV (mO 110) 87 4 = some 46 := by decide +kernel
theorem k110_51 : decode (mB 110) 51 = .ok (.iconst 0, 1) := by decide +kernel
theorem k110_52 : decode (mB 110) 52 = .ok (.istore 4, 2) := by decide +kernel
theorem k110_54 : decode (mB 110) 54 = .ok (.iload 4, 2) := by decide +kernel
theorem k110_56 : decode (mB 110) 56 = .ok (.iload_n 3, 1) := by decide +kernel
theorem k110_57 : decode (mB 110) 57 = .ok (.if_icmp .ge 20, 3) := by decide +kernel
theorem k110_60 : decode (mB 110) 60 = .ok (.aload_n 0, 1) := by decide +kernel
theorem k110_61 : decode (mB 110) 61 = .ok (.getfield 11, 3) ∧ tF (mO 110) 11 = some (10, 0, 1, 1) := by decide +kernel
theorem k110_64 : decode (mB 110) 64 = .ok (.iload_n 1, 1) := by decide +kernel
theorem k110_65 : decode (mB 110) 65 = .ok (.aaload, 1) := by decide +kernel
theorem k110_66 : decode (mB 110) 66 = .ok (.iconst 0, 1) := by decide +kernel
theorem k110_67 : decode (mB 110) 67 = .ok (.invokevirtual 90, 3) ∧ tVn (mO 110) 90 = some 1 ∧ tV (mO 110) 90 4 = some 47 := by decide +kernel
theorem k110_70 : decode (mB 110) 70 = .ok (.pop, 1) := by decide +kernel
theorem k110_71 : decode (mB 110) 71 = .ok (.iinc 4 1, 3) := by decide +kernel
theorem k110_74 : decode (mB 110) 74 = .ok (.goto (-20), 3) := by decide +kernel
theorem k110_77 : decode (mB 110) 77 = .ok (.aload_n 0, 1) := by decide +kernel
theorem k110_78 : decode (mB 110) 78 = .ok (.iload_n 3, 1) := by decide +kernel
theorem k110_79 : decode (mB 110) 79 = .ok (.invokevirtual 93, 3) ∧ tVn (mO 110) 93 = some 1 ∧ tV (mO 110) 93 10 = some 150 := by decide +kernel
theorem k110_82 : decode (mB 110) 82 = .ok (.ireturn, 1) ∧ mR 110 = (some .int) := by decide +kernel
-- 111: ChairPast.set:(III)I, locals 4
theorem l111 : mL 111 = 4 := by decide +kernel
theorem k111_0 : decode (mB 111) 0 = .ok (.iload_n 1, 1) := by decide +kernel
theorem k111_1 : decode (mB 111) 1 = .ok (.invokestatic 74, 3) ∧ tM (mO 111) 74 = none ∧ tS (mO 111) 74 = some 144 := by decide +kernel
theorem k111_4 : decode (mB 111) 4 = .ok (.ifCond .ne 6, 3) := by decide +kernel
theorem k111_7 : decode (mB 111) 7 = .ok (.ldc 82, 2) ∧ tK (mO 111) 82 = some (-1000001) := by decide +kernel
theorem k111_9 : decode (mB 111) 9 = .ok (.ireturn, 1) ∧ mR 111 = (some .int) := by decide +kernel
theorem k111_10 : decode (mB 111) 10 = .ok (.aload_n 0, 1) := by decide +kernel
theorem k111_11 : decode (mB 111) 11 = .ok (.iload_n 1, 1) := by decide +kernel
theorem k111_12 : decode (mB 111) 12 = .ok (.invokevirtual 96, 3) ∧ tVn (mO 111) 96 = some 1 ∧ tV (mO 111) 96 10 = some 145 := by decide +kernel
theorem k111_15 : decode (mB 111) 15 = .ok (.ifCond .eq 9, 3) := by decide +kernel
theorem k111_18 : decode (mB 111) 18 = .ok (.aload_n 0, 1) := by decide +kernel
theorem k111_19 : decode (mB 111) 19 = .ok (.iconst 1, 1) := by decide +kernel
theorem k111_20 : decode (mB 111) 20 = .ok (.invokevirtual 83, 3) ∧ tVn (mO 111) 83 = some 1 ∧ tV (mO 111) 83 10 = some 149 := by decide +kernel
theorem k111_23 : decode (mB 111) 23 = .ok (.ireturn, 1) ∧ mR 111 = (some .int) := by decide +kernel
theorem k111_24 : decode (mB 111) 24 = .ok (.iload_n 2, 1) := by decide +kernel
theorem k111_25 : decode (mB 111) 25 = .ok (.iconst 0, 1) := by decide +kernel
theorem k111_26 : decode (mB 111) 26 = .ok (.aload_n 0, 1) := by decide +kernel
theorem k111_27 : decode (mB 111) 27 = .ok (.getfield 11, 3) ∧ tF (mO 111) 11 = some (10, 0, 1, 1) := by decide +kernel
theorem k111_30 : decode (mB 111) 30 = .ok (.iload_n 1, 1) := by decide +kernel
theorem k111_31 : decode (mB 111) 31 = .ok (.aaload, 1) := by decide +kernel
theorem k111_32 : decode (mB 111) 32 = .ok (.getfield 99, 3) ∧ tF (mO 111) 99 = some (4, 1, 0, 0) := by decide +kernel
theorem k111_35 : decode (mB 111) 35 = .ok (.iconst 1, 1) := by decide +kernel
theorem k111_36 : decode (mB 111) 36 = .ok (.isub, 1) := by decide +kernel
theorem k111_37 : decode (mB 111) 37 = .ok (.invokestatic 78, 3) ∧ tM (mO 111) 78 = none ∧ tS (mO 111) 78 = some 143 := by decide +kernel
theorem k111_40 : decode (mB 111) 40 = .ok (.ifCond .ne 9, 3) := by decide +kernel
theorem k111_43 : decode (mB 111) 43 = .ok (.aload_n 0, 1) := by decide +kernel
theorem k111_44 : decode (mB 111) 44 = .ok (.iconst 2, 1) := by decide +kernel
theorem k111_45 : decode (mB 111) 45 = .ok (.invokevirtual 83, 3) ∧ tVn (mO 111) 83 = some 1 ∧ tV (mO 111) 83 10 = some 149 := by decide +kernel
theorem k111_48 : decode (mB 111) 48 = .ok (.ireturn, 1) ∧ mR 111 = (some .int) := by decide +kernel
theorem k111_49 : decode (mB 111) 49 = .ok (.aload_n 0, 1) := by decide +kernel
theorem k111_50 : decode (mB 111) 50 = .ok (.getfield 11, 3) ∧ tF (mO 111) 11 = some (10, 0, 1, 1) := by decide +kernel
theorem k111_53 : decode (mB 111) 53 = .ok (.iload_n 1, 1) := by decide +kernel
theorem k111_54 : decode (mB 111) 54 = .ok (.aaload, 1) := by decide +kernel
theorem k111_55 : decode (mB 111) 55 = .ok (.getfield 103, 3) ∧ tF (mO 111) 103 = some (4, 0, 1, 1) := by decide +kernel
theorem k111_58 : decode (mB 111) 58 = .ok (.iload_n 2, 1) := by decide +kernel
theorem k111_59 : decode (mB 111) 59 = .ok (.aload_n 0, 1) := by decide +kernel
theorem k111_60 : decode (mB 111) 60 = .ok (.getfield 15, 3) ∧ tF (mO 111) 15 = some (10, 1, 1, 1) := by decide +kernel
theorem k111_63 : decode (mB 111) 63 = .ok (.iload_n 1, 1) := by decide +kernel
theorem k111_64 : decode (mB 111) 64 = .ok (.iaload, 1) := by decide +kernel
theorem k111_65 : decode (mB 111) 65 = .ok (.iload_n 3, 1) := by decide +kernel
theorem k111_66 : decode (mB 111) 66 = .ok (.invokestatic 106, 3) ∧ tM (mO 111) 106 = none ∧ tS (mO 111) 106 = some 147 := by decide +kernel
theorem k111_69 : decode (mB 111) 69 = .ok (.iastore, 1) := by decide +kernel
theorem k111_70 : decode (mB 111) 70 = .ok (.aload_n 0, 1) := by decide +kernel
theorem k111_71 : decode (mB 111) 71 = .ok (.aload_n 0, 1) := by decide +kernel
theorem k111_72 : decode (mB 111) 72 = .ok (.getfield 11, 3) ∧ tF (mO 111) 11 = some (10, 0, 1, 1) := by decide +kernel
theorem k111_75 : decode (mB 111) 75 = .ok (.iload_n 1, 1) := by decide +kernel
theorem k111_76 : decode (mB 111) 76 = .ok (.aaload, 1) := by decide +kernel
theorem k111_77 : decode (mB 111) 77 = .ok (.getfield 103, 3) ∧ tF (mO 111) 103 = some (4, 0, 1, 1) := by decide +kernel
theorem k111_80 : decode (mB 111) 80 = .ok (.iload_n 2, 1) := by decide +kernel
theorem k111_81 : decode (mB 111) 81 = .ok (.iaload, 1) := by decide +kernel
theorem k111_82 : decode (mB 111) 82 = .ok (.invokevirtual 93, 3) ∧ tVn (mO 111) 93 = some 1 ∧ tV (mO 111) 93 10 = some 150 := by decide +kernel
theorem k111_85 : decode (mB 111) 85 = .ok (.ireturn, 1) ∧ mR 111 = (some .int) := by decide +kernel
-- 112: ChairPast.copy:(IIIII)I, locals 6
theorem l112 : mL 112 = 6 := by decide +kernel
theorem k112_0 : decode (mB 112) 0 = .ok (.iload_n 1, 1) := by decide +kernel
theorem k112_1 : decode (mB 112) 1 = .ok (.invokestatic 74, 3) ∧ tM (mO 112) 74 = none ∧ tS (mO 112) 74 = some 144 := by decide +kernel
theorem k112_4 : decode (mB 112) 4 = .ok (.ifCond .eq 10, 3) := by decide +kernel
theorem k112_7 : decode (mB 112) 7 = .ok (.iload_n 3, 1) := by decide +kernel
theorem k112_8 : decode (mB 112) 8 = .ok (.invokestatic 74, 3) ∧ tM (mO 112) 74 = none ∧ tS (mO 112) 74 = some 144 := by decide +kernel
theorem k112_11 : decode (mB 112) 11 = .ok (.ifCond .ne 6, 3) := by decide +kernel
theorem k112_14 : decode (mB 112) 14 = .ok (.ldc 82, 2) ∧ tK (mO 112) 82 = some (-1000001) := by decide +kernel
theorem k112_16 : decode (mB 112) 16 = .ok (.ireturn, 1) ∧ mR 112 = (some .int) := by decide +kernel
theorem k112_17 : decode (mB 112) 17 = .ok (.aload_n 0, 1) := by decide +kernel
theorem k112_18 : decode (mB 112) 18 = .ok (.iload_n 1, 1) := by decide +kernel
theorem k112_19 : decode (mB 112) 19 = .ok (.invokevirtual 96, 3) ∧ tVn (mO 112) 96 = some 1 ∧ tV (mO 112) 96 10 = some 145 := by decide +kernel
theorem k112_22 : decode (mB 112) 22 = .ok (.ifCond .ne 11, 3) := by decide +kernel
theorem k112_25 : decode (mB 112) 25 = .ok (.aload_n 0, 1) := by decide +kernel
theorem k112_26 : decode (mB 112) 26 = .ok (.iload_n 3, 1) := by decide +kernel
theorem k112_27 : decode (mB 112) 27 = .ok (.invokevirtual 96, 3) ∧ tVn (mO 112) 96 = some 1 ∧ tV (mO 112) 96 10 = some 145 := by decide +kernel
theorem k112_30 : decode (mB 112) 30 = .ok (.ifCond .eq 9, 3) := by decide +kernel
theorem k112_33 : decode (mB 112) 33 = .ok (.aload_n 0, 1) := by decide +kernel
theorem k112_34 : decode (mB 112) 34 = .ok (.iconst 1, 1) := by decide +kernel
theorem k112_35 : decode (mB 112) 35 = .ok (.invokevirtual 83, 3) ∧ tVn (mO 112) 83 = some 1 ∧ tV (mO 112) 83 10 = some 149 := by decide +kernel
theorem k112_38 : decode (mB 112) 38 = .ok (.ireturn, 1) ∧ mR 112 = (some .int) := by decide +kernel
theorem k112_39 : decode (mB 112) 39 = .ok (.aload_n 0, 1) := by decide +kernel
theorem k112_40 : decode (mB 112) 40 = .ok (.getfield 15, 3) ∧ tF (mO 112) 15 = some (10, 1, 1, 1) := by decide +kernel
theorem k112_43 : decode (mB 112) 43 = .ok (.iload_n 1, 1) := by decide +kernel
theorem k112_44 : decode (mB 112) 44 = .ok (.iaload, 1) := by decide +kernel
theorem k112_45 : decode (mB 112) 45 = .ok (.aload_n 0, 1) := by decide +kernel
theorem k112_46 : decode (mB 112) 46 = .ok (.getfield 15, 3) ∧ tF (mO 112) 15 = some (10, 1, 1, 1) := by decide +kernel
theorem k112_49 : decode (mB 112) 49 = .ok (.iload_n 3, 1) := by decide +kernel
theorem k112_50 : decode (mB 112) 50 = .ok (.iaload, 1) := by decide +kernel
theorem k112_51 : decode (mB 112) 51 = .ok (.if_icmp .eq 9, 3) := by decide +kernel
theorem k112_54 : decode (mB 112) 54 = .ok (.aload_n 0, 1) := by decide +kernel
theorem k112_55 : decode (mB 112) 55 = .ok (.iconst 5, 1) := by decide +kernel
theorem k112_56 : decode (mB 112) 56 = .ok (.invokevirtual 83, 3) ∧ tVn (mO 112) 83 = some 1 ∧ tV (mO 112) 83 10 = some 149 := by decide +kernel
theorem k112_59 : decode (mB 112) 59 = .ok (.ireturn, 1) ∧ mR 112 = (some .int) := by decide +kernel
theorem k112_60 : decode (mB 112) 60 = .ok (.aload_n 0, 1) := by decide +kernel
theorem k112_61 : decode (mB 112) 61 = .ok (.getfield 11, 3) ∧ tF (mO 112) 11 = some (10, 0, 1, 1) := by decide +kernel
theorem k112_64 : decode (mB 112) 64 = .ok (.iload_n 1, 1) := by decide +kernel
theorem k112_65 : decode (mB 112) 65 = .ok (.aaload, 1) := by decide +kernel
theorem k112_66 : decode (mB 112) 66 = .ok (.iload_n 2, 1) := by decide +kernel
theorem k112_67 : decode (mB 112) 67 = .ok (.iload 5, 2) := by decide +kernel
theorem k112_69 : decode (mB 112) 69 = .ok (.invokevirtual 110, 3) ∧ tVn (mO 112) 110 = some 2 ∧ tV (mO 112) 110 4 = some 49 := by decide +kernel
theorem k112_72 : decode (mB 112) 72 = .ok (.ifCond .eq 19, 3) := by decide +kernel
theorem k112_75 : decode (mB 112) 75 = .ok (.aload_n 0, 1) := by decide +kernel
theorem k112_76 : decode (mB 112) 76 = .ok (.getfield 11, 3) ∧ tF (mO 112) 11 = some (10, 0, 1, 1) := by decide +kernel
theorem k112_79 : decode (mB 112) 79 = .ok (.iload_n 3, 1) := by decide +kernel
theorem k112_80 : decode (mB 112) 80 = .ok (.aaload, 1) := by decide +kernel
theorem k112_81 : decode (mB 112) 81 = .ok (.iload 4, 2) := by decide +kernel
theorem k112_83 : decode (mB 112) 83 = .ok (.iload 5, 2) := by decide +kernel
theorem k112_85 : decode (mB 112) 85 = .ok (.invokevirtual 110, 3) ∧ tVn (mO 112) 110 = some 2 ∧ tV (mO 112) 110 4 = some 49 := by decide +kernel
theorem k112_88 : decode (mB 112) 88 = .ok (.ifCond .ne 9, 3) := by decide +kernel
theorem k112_91 : decode (mB 112) 91 = .ok (.aload_n 0, 1) := by decide +kernel
theorem k112_92 : decode (mB 112) 92 = .ok (.iconst 2, 1) := by decide +kernel
theorem k112_93 : decode (mB 112) 93 = .ok (.invokevirtual 83, 3) ∧ tVn (mO 112) 83 = some 1 ∧ tV (mO 112) 83 10 = some 149 := by decide +kernel
theorem k112_96 : decode (mB 112) 96 = .ok (.ireturn, 1) ∧ mR 112 = (some .int) := by decide +kernel
theorem k112_97 : decode (mB 112) 97 = .ok (.aload_n 0, 1) := by decide +kernel
theorem k112_98 : decode (mB 112) 98 = .ok (.getfield 11, 3) ∧ tF (mO 112) 11 = some (10, 0, 1, 1) := by decide +kernel
theorem k112_101 : decode (mB 112) 101 = .ok (.iload_n 1, 1) := by decide +kernel
theorem k112_102 : decode (mB 112) 102 = .ok (.aaload, 1) := by decide +kernel
theorem k112_103 : decode (mB 112) 103 = .ok (.getfield 103, 3) ∧ tF (mO 112) 103 = some (4, 0, 1, 1) := by decide +kernel
theorem k112_106 : decode (mB 112) 106 = .ok (.iload_n 2, 1) := by decide +kernel
theorem k112_107 : decode (mB 112) 107 = .ok (.aload_n 0, 1) := by decide +kernel
theorem k112_108 : decode (mB 112) 108 = .ok (.getfield 11, 3) ∧ tF (mO 112) 11 = some (10, 0, 1, 1) := by decide +kernel
theorem k112_111 : decode (mB 112) 111 = .ok (.iload_n 3, 1) := by decide +kernel
theorem k112_112 : decode (mB 112) 112 = .ok (.aaload, 1) := by decide +kernel
theorem k112_113 : decode (mB 112) 113 = .ok (.getfield 103, 3) ∧ tF (mO 112) 103 = some (4, 0, 1, 1) := by decide +kernel
theorem k112_116 : decode (mB 112) 116 = .ok (.iload 4, 2) := by decide +kernel
theorem k112_118 : decode (mB 112) 118 = .ok (.iload 5, 2) := by decide +kernel
theorem k112_120 : decode (mB 112) 120 = .ok (.invokestatic 114, 3) ∧ tM (mO 112) 114 = some 0 := by decide +kernel
theorem k112_123 : decode (mB 112) 123 = .ok (.aload_n 0, 1) := by decide +kernel
theorem k112_124 : decode (mB 112) 124 = .ok (.iload 5, 2) := by decide +kernel
theorem k112_126 : decode (mB 112) 126 = .ok (.invokevirtual 93, 3) ∧ tVn (mO 112) 93 = some 1 ∧ tV (mO 112) 93 10 = some 150 := by decide +kernel
theorem k112_129 : decode (mB 112) 129 = .ok (.ireturn, 1) ∧ mR 112 = (some .int) := by decide +kernel
-- 113: ChairPast.drop:(I)I, locals 3
theorem l113 : mL 113 = 3 := by decide +kernel
theorem k113_0 : decode (mB 113) 0 = .ok (.iload_n 1, 1) := by decide +kernel
theorem k113_1 : decode (mB 113) 1 = .ok (.invokestatic 74, 3) ∧ tM (mO 113) 74 = none ∧ tS (mO 113) 74 = some 144 := by decide +kernel
theorem k113_4 : decode (mB 113) 4 = .ok (.ifCond .ne 6, 3) := by decide +kernel
theorem k113_7 : decode (mB 113) 7 = .ok (.ldc 82, 2) ∧ tK (mO 113) 82 = some (-1000001) := by decide +kernel
theorem k113_9 : decode (mB 113) 9 = .ok (.ireturn, 1) ∧ mR 113 = (some .int) := by decide +kernel
theorem k113_10 : decode (mB 113) 10 = .ok (.aload_n 0, 1) := by decide +kernel
theorem k113_11 : decode (mB 113) 11 = .ok (.iload_n 1, 1) := by decide +kernel
theorem k113_12 : decode (mB 113) 12 = .ok (.invokevirtual 96, 3) ∧ tVn (mO 113) 96 = some 1 ∧ tV (mO 113) 96 10 = some 145 := by decide +kernel
theorem k113_15 : decode (mB 113) 15 = .ok (.ifCond .eq 9, 3) := by decide +kernel
theorem k113_18 : decode (mB 113) 18 = .ok (.aload_n 0, 1) := by decide +kernel
theorem k113_19 : decode (mB 113) 19 = .ok (.iconst 1, 1) := by decide +kernel
theorem k113_20 : decode (mB 113) 20 = .ok (.invokevirtual 83, 3) ∧ tVn (mO 113) 83 = some 1 ∧ tV (mO 113) 83 10 = some 149 := by decide +kernel
theorem k113_23 : decode (mB 113) 23 = .ok (.ireturn, 1) ∧ mR 113 = (some .int) := by decide +kernel
theorem k113_24 : decode (mB 113) 24 = .ok (.aload_n 0, 1) := by decide +kernel
theorem k113_25 : decode (mB 113) 25 = .ok (.getfield 11, 3) ∧ tF (mO 113) 11 = some (10, 0, 1, 1) := by decide +kernel
theorem k113_28 : decode (mB 113) 28 = .ok (.iload_n 1, 1) := by decide +kernel
theorem k113_29 : decode (mB 113) 29 = .ok (.aaload, 1) := by decide +kernel
theorem k113_30 : decode (mB 113) 30 = .ok (.getfield 99, 3) ∧ tF (mO 113) 99 = some (4, 1, 0, 0) := by decide +kernel
theorem k113_33 : decode (mB 113) 33 = .ok (.istore_n 2, 1) := by decide +kernel
theorem k113_34 : decode (mB 113) 34 = .ok (.aload_n 0, 1) := by decide +kernel
theorem k113_35 : decode (mB 113) 35 = .ok (.getfield 15, 3) ∧ tF (mO 113) 15 = some (10, 1, 1, 1) := by decide +kernel
theorem k113_38 : decode (mB 113) 38 = .ok (.iload_n 1, 1) := by decide +kernel
theorem k113_39 : decode (mB 113) 39 = .ok (.iconst (-1), 1) := by decide +kernel
theorem k113_40 : decode (mB 113) 40 = .ok (.iastore, 1) := by decide +kernel
theorem k113_41 : decode (mB 113) 41 = .ok (.aload_n 0, 1) := by decide +kernel
theorem k113_42 : decode (mB 113) 42 = .ok (.getfield 11, 3) ∧ tF (mO 113) 11 = some (10, 0, 1, 1) := by decide +kernel
theorem k113_45 : decode (mB 113) 45 = .ok (.iload_n 1, 1) := by decide +kernel
theorem k113_46 : decode (mB 113) 46 = .ok (.aaload, 1) := by decide +kernel
theorem k113_47 : decode (mB 113) 47 = .ok (.invokevirtual 87, 3) ∧ tVn (mO 113) 87 = some 0 ∧ tV (mO 113) 87 4 = some 46 := by decide +kernel
theorem k113_50 : decode (mB 113) 50 = .ok (.aload_n 0, 1) := by decide +kernel
theorem k113_51 : decode (mB 113) 51 = .ok (.iload_n 2, 1) := by decide +kernel
theorem k113_52 : decode (mB 113) 52 = .ok (.invokevirtual 93, 3) ∧ tVn (mO 113) 93 = some 1 ∧ tV (mO 113) 93 10 = some 150 := by decide +kernel
theorem k113_55 : decode (mB 113) 55 = .ok (.ireturn, 1) ∧ mR 113 = (some .int) := by decide +kernel
-- 114: ChairPast.feed:(I)I, locals 2
theorem l114 : mL 114 = 2 := by decide +kernel
theorem k114_0 : decode (mB 114) 0 = .ok (.iload_n 1, 1) := by decide +kernel
theorem k114_1 : decode (mB 114) 1 = .ok (.iconst 0, 1) := by decide +kernel
theorem k114_2 : decode (mB 114) 2 = .ok (.sipush 255, 3) := by decide +kernel
theorem k114_5 : decode (mB 114) 5 = .ok (.invokestatic 78, 3) ∧ tM (mO 114) 78 = none ∧ tS (mO 114) 78 = some 143 := by decide +kernel
theorem k114_8 : decode (mB 114) 8 = .ok (.ifCond .ne 6, 3) := by decide +kernel
theorem k114_11 : decode (mB 114) 11 = .ok (.ldc 82, 2) ∧ tK (mO 114) 82 = some (-1000001) := by decide +kernel
theorem k114_13 : decode (mB 114) 13 = .ok (.ireturn, 1) ∧ mR 114 = (some .int) := by decide +kernel
theorem k114_14 : decode (mB 114) 14 = .ok (.aload_n 0, 1) := by decide +kernel
theorem k114_15 : decode (mB 114) 15 = .ok (.getfield 61, 3) ∧ tF (mO 114) 61 = some (10, 6, 1, 1) := by decide +kernel
theorem k114_18 : decode (mB 114) 18 = .ok (.getfield 120, 3) ∧ tF (mO 114) 120 = some (6, 0, 1, 1) := by decide +kernel
theorem k114_21 : decode (mB 114) 21 = .ok (.iload_n 1, 1) := by decide +kernel
theorem k114_22 : decode (mB 114) 22 = .ok (.invokevirtual 90, 3) ∧ tVn (mO 114) 90 = some 1 ∧ tV (mO 114) 90 4 = some 47 := by decide +kernel
theorem k114_25 : decode (mB 114) 25 = .ok (.ifCond .eq 16, 3) := by decide +kernel
theorem k114_28 : decode (mB 114) 28 = .ok (.aload_n 0, 1) := by decide +kernel
theorem k114_29 : decode (mB 114) 29 = .ok (.getfield 61, 3) ∧ tF (mO 114) 61 = some (10, 6, 1, 1) := by decide +kernel
theorem k114_32 : decode (mB 114) 32 = .ok (.getfield 120, 3) ∧ tF (mO 114) 120 = some (6, 0, 1, 1) := by decide +kernel
theorem k114_35 : decode (mB 114) 35 = .ok (.getfield 99, 3) ∧ tF (mO 114) 99 = some (4, 1, 0, 0) := by decide +kernel
theorem k114_38 : decode (mB 114) 38 = .ok (.goto 5, 3) := by decide +kernel
theorem k114_41 : decode (mB 114) 41 = .ok (.ldc 123, 2) ∧ tK (mO 114) 123 = some (-1000003) := by decide +kernel
theorem k114_43 : decode (mB 114) 43 = .ok (.ireturn, 1) ∧ mR 114 = (some .int) := by decide +kernel
-- 115: ChairPast.room:()I, locals 1
theorem l115 : mL 115 = 1 := by decide +kernel
theorem k115_0 : decode (mB 115) 0 = .ok (.aload_n 0, 1) := by decide +kernel
theorem k115_1 : decode (mB 115) 1 = .ok (.getfield 61, 3) ∧ tF (mO 115) 61 = some (10, 6, 1, 1) := by decide +kernel
theorem k115_4 : decode (mB 115) 4 = .ok (.invokevirtual 124, 3) ∧ tVn (mO 115) 124 = some 0 ∧ tV (mO 115) 124 6 = some 60 := by decide +kernel
theorem k115_7 : decode (mB 115) 7 = .ok (.ifCond .ne 25, 3) := by decide +kernel
theorem k115_10 : decode (mB 115) 10 = .ok (.aload_n 0, 1) := by decide +kernel
theorem k115_11 : decode (mB 115) 11 = .ok (.aload_n 0, 1) := by decide +kernel
theorem k115_12 : decode (mB 115) 12 = .ok (.getfield 61, 3) ∧ tF (mO 115) 61 = some (10, 6, 1, 1) := by decide +kernel
theorem k115_15 : decode (mB 115) 15 = .ok (.getfield 128, 3) ∧ tF (mO 115) 128 = some (6, 4, 0, 0) := by decide +kernel
theorem k115_18 : decode (mB 115) 18 = .ok (.putfield 131, 3) ∧ tF (mO 115) 131 = some (10, 10, 0, 0) := by decide +kernel
theorem k115_21 : decode (mB 115) 21 = .ok (.ldc 134, 2) ∧ tK (mO 115) 134 = some (-1000100) := by decide +kernel
theorem k115_23 : decode (mB 115) 23 = .ok (.aload_n 0, 1) := by decide +kernel
theorem k115_24 : decode (mB 115) 24 = .ok (.getfield 61, 3) ∧ tF (mO 115) 61 = some (10, 6, 1, 1) := by decide +kernel
theorem k115_27 : decode (mB 115) 27 = .ok (.getfield 135, 3) ∧ tF (mO 115) 135 = some (6, 3, 0, 0) := by decide +kernel
theorem k115_30 : decode (mB 115) 30 = .ok (.isub, 1) := by decide +kernel
theorem k115_31 : decode (mB 115) 31 = .ok (.ireturn, 1) ∧ mR 115 = (some .int) := by decide +kernel
theorem k115_32 : decode (mB 115) 32 = .ok (.aload_n 0, 1) := by decide +kernel
theorem k115_33 : decode (mB 115) 33 = .ok (.getfield 54, 3) ∧ tF (mO 115) 54 = some (10, 5, 1, 1) := by decide +kernel
theorem k115_36 : decode (mB 115) 36 = .ok (.aload_n 0, 1) := by decide +kernel
theorem k115_37 : decode (mB 115) 37 = .ok (.getfield 61, 3) ∧ tF (mO 115) 61 = some (10, 6, 1, 1) := by decide +kernel
theorem k115_40 : decode (mB 115) 40 = .ok (.invokevirtual 138, 3) ∧ tVn (mO 115) 138 = some 0 ∧ tV (mO 115) 138 6 = some 61 := by decide +kernel
theorem k115_43 : decode (mB 115) 43 = .ok (.invokevirtual 142, 3) ∧ tVn (mO 115) 142 = some 1 ∧ tV (mO 115) 142 8 = some 102 := by decide +kernel
theorem k115_46 : decode (mB 115) 46 = .ok (.aload_n 0, 1) := by decide +kernel
theorem k115_47 : decode (mB 115) 47 = .ok (.invokevirtual 146, 3) ∧ tVn (mO 115) 146 = some 0 ∧ tV (mO 115) 146 10 = some 152 := by decide +kernel
theorem k115_50 : decode (mB 115) 50 = .ok (.aload_n 0, 1) := by decide +kernel
theorem k115_51 : decode (mB 115) 51 = .ok (.getfield 54, 3) ∧ tF (mO 115) 54 = some (10, 5, 1, 1) := by decide +kernel
theorem k115_54 : decode (mB 115) 54 = .ok (.getfield 149, 3) ∧ tF (mO 115) 149 = some (8, 6, 0, 0) := by decide +kernel
theorem k115_57 : decode (mB 115) 57 = .ok (.ireturn, 1) ∧ mR 115 = (some .int) := by decide +kernel
-- 116: ChairPast.fault:()I, locals 1
theorem l116 : mL 116 = 1 := by decide +kernel
theorem k116_0 : decode (mB 116) 0 = .ok (.aload_n 0, 1) := by decide +kernel
theorem k116_1 : decode (mB 116) 1 = .ok (.getfield 131, 3) ∧ tF (mO 116) 131 = some (10, 10, 0, 0) := by decide +kernel
theorem k116_4 : decode (mB 116) 4 = .ok (.ireturn, 1) ∧ mR 116 = (some .int) := by decide +kernel
-- 117: ChairPast.sit:(II)I, locals 3
theorem l117 : mL 117 = 3 := by decide +kernel
theorem k117_0 : decode (mB 117) 0 = .ok (.aload_n 0, 1) := by decide +kernel
theorem k117_1 : decode (mB 117) 1 = .ok (.getfield 54, 3) ∧ tF (mO 117) 54 = some (10, 5, 1, 1) := by decide +kernel
theorem k117_4 : decode (mB 117) 4 = .ok (.iload_n 1, 1) := by decide +kernel
theorem k117_5 : decode (mB 117) 5 = .ok (.invokevirtual 152, 3) ∧ tVn (mO 117) 152 = some 1 ∧ tV (mO 117) 152 8 = some 85 := by decide +kernel
theorem k117_8 : decode (mB 117) 8 = .ok (.ifCond .eq 14, 3) := by decide +kernel
theorem k117_11 : decode (mB 117) 11 = .ok (.aload_n 0, 1) := by decide +kernel
theorem k117_12 : decode (mB 117) 12 = .ok (.getfield 54, 3) ∧ tF (mO 117) 54 = some (10, 5, 1, 1) := by decide +kernel
theorem k117_15 : decode (mB 117) 15 = .ok (.iload_n 2, 1) := by decide +kernel
theorem k117_16 : decode (mB 117) 16 = .ok (.invokevirtual 155, 3) ∧ tVn (mO 117) 155 = some 1 ∧ tV (mO 117) 155 8 = some 84 := by decide +kernel
theorem k117_19 : decode (mB 117) 19 = .ok (.ifCond .ne 6, 3) := by decide +kernel
theorem k117_22 : decode (mB 117) 22 = .ok (.ldc 82, 2) ∧ tK (mO 117) 82 = some (-1000001) := by decide +kernel
theorem k117_24 : decode (mB 117) 24 = .ok (.ireturn, 1) ∧ mR 117 = (some .int) := by decide +kernel
theorem k117_25 : decode (mB 117) 25 = .ok (.aload_n 0, 1) := by decide +kernel
theorem k117_26 : decode (mB 117) 26 = .ok (.getfield 54, 3) ∧ tF (mO 117) 54 = some (10, 5, 1, 1) := by decide +kernel
theorem k117_29 : decode (mB 117) 29 = .ok (.iload_n 1, 1) := by decide +kernel
theorem k117_30 : decode (mB 117) 30 = .ok (.invokevirtual 158, 3) ∧ tVn (mO 117) 158 = some 1 ∧ tV (mO 117) 158 8 = some 86 := by decide +kernel
theorem k117_33 : decode (mB 117) 33 = .ok (.ifCond .ne 14, 3) := by decide +kernel
theorem k117_36 : decode (mB 117) 36 = .ok (.aload_n 0, 1) := by decide +kernel
theorem k117_37 : decode (mB 117) 37 = .ok (.getfield 54, 3) ∧ tF (mO 117) 54 = some (10, 5, 1, 1) := by decide +kernel
theorem k117_40 : decode (mB 117) 40 = .ok (.iload_n 2, 1) := by decide +kernel
theorem k117_41 : decode (mB 117) 41 = .ok (.invokevirtual 161, 3) ∧ tVn (mO 117) 161 = some 1 ∧ tV (mO 117) 161 8 = some 87 := by decide +kernel
theorem k117_44 : decode (mB 117) 44 = .ok (.ifCond .eq 6, 3) := by decide +kernel
theorem k117_47 : decode (mB 117) 47 = .ok (.ldc 164, 2) ∧ tK (mO 117) 164 = some (-1000002) := by decide +kernel
theorem k117_49 : decode (mB 117) 49 = .ok (.ireturn, 1) ∧ mR 117 = (some .int) := by decide +kernel
theorem k117_50 : decode (mB 117) 50 = .ok (.aload_n 0, 1) := by decide +kernel
theorem k117_51 : decode (mB 117) 51 = .ok (.invokevirtual 165, 3) ∧ tVn (mO 117) 165 = some 0 ∧ tV (mO 117) 165 10 = some 151 := by decide +kernel
theorem k117_54 : decode (mB 117) 54 = .ok (.aload_n 0, 1) := by decide +kernel
theorem k117_55 : decode (mB 117) 55 = .ok (.getfield 54, 3) ∧ tF (mO 117) 54 = some (10, 5, 1, 1) := by decide +kernel
theorem k117_58 : decode (mB 117) 58 = .ok (.iload_n 1, 1) := by decide +kernel
theorem k117_59 : decode (mB 117) 59 = .ok (.iload_n 2, 1) := by decide +kernel
theorem k117_60 : decode (mB 117) 60 = .ok (.invokevirtual 168, 3) ∧ tVn (mO 117) 168 = some 2 ∧ tV (mO 117) 168 8 = some 88 := by decide +kernel
theorem k117_63 : decode (mB 117) 63 = .ok (.aload_n 0, 1) := by decide +kernel
theorem k117_64 : decode (mB 117) 64 = .ok (.getfield 54, 3) ∧ tF (mO 117) 54 = some (10, 5, 1, 1) := by decide +kernel
theorem k117_67 : decode (mB 117) 67 = .ok (.getfield 172, 3) ∧ tF (mO 117) 172 = some (8, 5, 1, 1) := by decide +kernel
theorem k117_70 : decode (mB 117) 70 = .ok (.iload_n 1, 1) := by decide +kernel
theorem k117_71 : decode (mB 117) 71 = .ok (.iaload, 1) := by decide +kernel
theorem k117_72 : decode (mB 117) 72 = .ok (.ireturn, 1) ∧ mR 117 = (some .int) := by decide +kernel
-- 118: ChairPast.rise:(I)I, locals 3
theorem l118 : mL 118 = 3 := by decide +kernel
theorem k118_0 : decode (mB 118) 0 = .ok (.aload_n 0, 1) := by decide +kernel
theorem k118_1 : decode (mB 118) 1 = .ok (.getfield 54, 3) ∧ tF (mO 118) 54 = some (10, 5, 1, 1) := by decide +kernel
theorem k118_4 : decode (mB 118) 4 = .ok (.iload_n 1, 1) := by decide +kernel
theorem k118_5 : decode (mB 118) 5 = .ok (.invokevirtual 152, 3) ∧ tVn (mO 118) 152 = some 1 ∧ tV (mO 118) 152 8 = some 85 := by decide +kernel
theorem k118_8 : decode (mB 118) 8 = .ok (.ifCond .ne 6, 3) := by decide +kernel
theorem k118_11 : decode (mB 118) 11 = .ok (.ldc 82, 2) ∧ tK (mO 118) 82 = some (-1000001) := by decide +kernel
theorem k118_13 : decode (mB 118) 13 = .ok (.ireturn, 1) ∧ mR 118 = (some .int) := by decide +kernel
theorem k118_14 : decode (mB 118) 14 = .ok (.aload_n 0, 1) := by decide +kernel
theorem k118_15 : decode (mB 118) 15 = .ok (.getfield 54, 3) ∧ tF (mO 118) 54 = some (10, 5, 1, 1) := by decide +kernel
theorem k118_18 : decode (mB 118) 18 = .ok (.iload_n 1, 1) := by decide +kernel
theorem k118_19 : decode (mB 118) 19 = .ok (.invokevirtual 158, 3) ∧ tVn (mO 118) 158 = some 1 ∧ tV (mO 118) 158 8 = some 86 := by decide +kernel
theorem k118_22 : decode (mB 118) 22 = .ok (.ifCond .ne 6, 3) := by decide +kernel
theorem k118_25 : decode (mB 118) 25 = .ok (.ldc 164, 2) ∧ tK (mO 118) 164 = some (-1000002) := by decide +kernel
theorem k118_27 : decode (mB 118) 27 = .ok (.ireturn, 1) ∧ mR 118 = (some .int) := by decide +kernel
theorem k118_28 : decode (mB 118) 28 = .ok (.aload_n 0, 1) := by decide +kernel
theorem k118_29 : decode (mB 118) 29 = .ok (.invokevirtual 165, 3) ∧ tVn (mO 118) 165 = some 0 ∧ tV (mO 118) 165 10 = some 151 := by decide +kernel
theorem k118_32 : decode (mB 118) 32 = .ok (.aload_n 0, 1) := by decide +kernel
theorem k118_33 : decode (mB 118) 33 = .ok (.getfield 54, 3) ∧ tF (mO 118) 54 = some (10, 5, 1, 1) := by decide +kernel
theorem k118_36 : decode (mB 118) 36 = .ok (.getfield 175, 3) ∧ tF (mO 118) 175 = some (8, 4, 1, 1) := by decide +kernel
theorem k118_39 : decode (mB 118) 39 = .ok (.iload_n 1, 1) := by decide +kernel
theorem k118_40 : decode (mB 118) 40 = .ok (.iaload, 1) := by decide +kernel
theorem k118_41 : decode (mB 118) 41 = .ok (.istore_n 2, 1) := by decide +kernel
theorem k118_42 : decode (mB 118) 42 = .ok (.aload_n 0, 1) := by decide +kernel
theorem k118_43 : decode (mB 118) 43 = .ok (.getfield 54, 3) ∧ tF (mO 118) 54 = some (10, 5, 1, 1) := by decide +kernel
theorem k118_46 : decode (mB 118) 46 = .ok (.iload_n 1, 1) := by decide +kernel
theorem k118_47 : decode (mB 118) 47 = .ok (.invokevirtual 178, 3) ∧ tVn (mO 118) 178 = some 1 ∧ tV (mO 118) 178 8 = some 90 := by decide +kernel
theorem k118_50 : decode (mB 118) 50 = .ok (.iload_n 2, 1) := by decide +kernel
theorem k118_51 : decode (mB 118) 51 = .ok (.ireturn, 1) ∧ mR 118 = (some .int) := by decide +kernel
-- 119: ChairPast.recane:(I)I, locals 3
theorem l119 : mL 119 = 3 := by decide +kernel
theorem k119_0 : decode (mB 119) 0 = .ok (.aload_n 0, 1) := by decide +kernel
theorem k119_1 : decode (mB 119) 1 = .ok (.getfield 54, 3) ∧ tF (mO 119) 54 = some (10, 5, 1, 1) := by decide +kernel
theorem k119_4 : decode (mB 119) 4 = .ok (.iload_n 1, 1) := by decide +kernel
theorem k119_5 : decode (mB 119) 5 = .ok (.invokevirtual 155, 3) ∧ tVn (mO 119) 155 = some 1 ∧ tV (mO 119) 155 8 = some 84 := by decide +kernel
theorem k119_8 : decode (mB 119) 8 = .ok (.ifCond .ne 6, 3) := by decide +kernel
theorem k119_11 : decode (mB 119) 11 = .ok (.ldc 82, 2) ∧ tK (mO 119) 82 = some (-1000001) := by decide +kernel
theorem k119_13 : decode (mB 119) 13 = .ok (.ireturn, 1) ∧ mR 119 = (some .int) := by decide +kernel
theorem k119_14 : decode (mB 119) 14 = .ok (.aload_n 0, 1) := by decide +kernel
theorem k119_15 : decode (mB 119) 15 = .ok (.invokevirtual 165, 3) ∧ tVn (mO 119) 165 = some 0 ∧ tV (mO 119) 165 10 = some 151 := by decide +kernel
theorem k119_18 : decode (mB 119) 18 = .ok (.aload_n 0, 1) := by decide +kernel
theorem k119_19 : decode (mB 119) 19 = .ok (.getfield 54, 3) ∧ tF (mO 119) 54 = some (10, 5, 1, 1) := by decide +kernel
theorem k119_22 : decode (mB 119) 22 = .ok (.getfield 181, 3) ∧ tF (mO 119) 181 = some (8, 1, 1, 1) := by decide +kernel
theorem k119_25 : decode (mB 119) 25 = .ok (.iload_n 1, 1) := by decide +kernel
theorem k119_26 : decode (mB 119) 26 = .ok (.aaload, 1) := by decide +kernel
theorem k119_27 : decode (mB 119) 27 = .ok (.getfield 185, 3) ∧ tF (mO 119) 185 = some (1, 2, 0, 0) := by decide +kernel
theorem k119_30 : decode (mB 119) 30 = .ok (.istore_n 2, 1) := by decide +kernel
theorem k119_31 : decode (mB 119) 31 = .ok (.aload_n 0, 1) := by decide +kernel
theorem k119_32 : decode (mB 119) 32 = .ok (.getfield 54, 3) ∧ tF (mO 119) 54 = some (10, 5, 1, 1) := by decide +kernel
theorem k119_35 : decode (mB 119) 35 = .ok (.getfield 181, 3) ∧ tF (mO 119) 181 = some (8, 1, 1, 1) := by decide +kernel
theorem k119_38 : decode (mB 119) 38 = .ok (.iload_n 1, 1) := by decide +kernel
theorem k119_39 : decode (mB 119) 39 = .ok (.aaload, 1) := by decide +kernel
theorem k119_40 : decode (mB 119) 40 = .ok (.iconst 0, 1) := by decide +kernel
theorem k119_41 : decode (mB 119) 41 = .ok (.putfield 185, 3) ∧ tF (mO 119) 185 = some (1, 2, 0, 0) := by decide +kernel
theorem k119_44 : decode (mB 119) 44 = .ok (.iload_n 2, 1) := by decide +kernel
theorem k119_45 : decode (mB 119) 45 = .ok (.ireturn, 1) ∧ mR 119 = (some .int) := by decide +kernel
-- 120: ChairPast.move:(I)I, locals 2
theorem l120 : mL 120 = 2 := by decide +kernel
theorem k120_0 : decode (mB 120) 0 = .ok (.iload_n 1, 1) := by decide +kernel
theorem k120_1 : decode (mB 120) 1 = .ok (.iconst 0, 1) := by decide +kernel
theorem k120_2 : decode (mB 120) 2 = .ok (.aload_n 0, 1) := by decide +kernel
theorem k120_3 : decode (mB 120) 3 = .ok (.getfield 54, 3) ∧ tF (mO 120) 54 = some (10, 5, 1, 1) := by decide +kernel
theorem k120_6 : decode (mB 120) 6 = .ok (.getfield 149, 3) ∧ tF (mO 120) 149 = some (8, 6, 0, 0) := by decide +kernel
theorem k120_9 : decode (mB 120) 9 = .ok (.iconst 2, 1) := by decide +kernel
theorem k120_10 : decode (mB 120) 10 = .ok (.isub, 1) := by decide +kernel
theorem k120_11 : decode (mB 120) 11 = .ok (.invokestatic 78, 3) ∧ tM (mO 120) 78 = none ∧ tS (mO 120) 78 = some 143 := by decide +kernel
theorem k120_14 : decode (mB 120) 14 = .ok (.ifCond .ne 6, 3) := by decide +kernel
theorem k120_17 : decode (mB 120) 17 = .ok (.ldc 82, 2) ∧ tK (mO 120) 82 = some (-1000001) := by decide +kernel
theorem k120_19 : decode (mB 120) 19 = .ok (.ireturn, 1) ∧ mR 120 = (some .int) := by decide +kernel
theorem k120_20 : decode (mB 120) 20 = .ok (.aload_n 0, 1) := by decide +kernel
theorem k120_21 : decode (mB 120) 21 = .ok (.invokevirtual 165, 3) ∧ tVn (mO 120) 165 = some 0 ∧ tV (mO 120) 165 10 = some 151 := by decide +kernel
theorem k120_24 : decode (mB 120) 24 = .ok (.aload_n 0, 1) := by decide +kernel
theorem k120_25 : decode (mB 120) 25 = .ok (.getfield 54, 3) ∧ tF (mO 120) 54 = some (10, 5, 1, 1) := by decide +kernel
theorem k120_28 : decode (mB 120) 28 = .ok (.iload_n 1, 1) := by decide +kernel
theorem k120_29 : decode (mB 120) 29 = .ok (.invokevirtual 190, 3) ∧ tVn (mO 120) 190 = some 1 ∧ tV (mO 120) 190 8 = some 91 := by decide +kernel
theorem k120_32 : decode (mB 120) 32 = .ok (.aload_n 0, 1) := by decide +kernel
theorem k120_33 : decode (mB 120) 33 = .ok (.getfield 54, 3) ∧ tF (mO 120) 54 = some (10, 5, 1, 1) := by decide +kernel
theorem k120_36 : decode (mB 120) 36 = .ok (.invokevirtual 193, 3) ∧ tVn (mO 120) 193 = some 0 ∧ tV (mO 120) 193 8 = some 92 := by decide +kernel
theorem k120_39 : decode (mB 120) 39 = .ok (.ireturn, 1) ∧ mR 120 = (some .int) := by decide +kernel
-- 121: ChairPast.undo:()I, locals 1
theorem l121 : mL 121 = 1 := by decide +kernel
theorem k121_0 : decode (mB 121) 0 = .ok (.aload_n 0, 1) := by decide +kernel
theorem k121_1 : decode (mB 121) 1 = .ok (.getfield 197, 3) ∧ tF (mO 121) 197 = some (10, 9, 0, 0) := by decide +kernel
theorem k121_4 : decode (mB 121) 4 = .ok (.ifCond .ne 6, 3) := by decide +kernel
theorem k121_7 : decode (mB 121) 7 = .ok (.ldc 164, 2) ∧ tK (mO 121) 164 = some (-1000002) := by decide +kernel
theorem k121_9 : decode (mB 121) 9 = .ok (.ireturn, 1) ∧ mR 121 = (some .int) := by decide +kernel
theorem k121_10 : decode (mB 121) 10 = .ok (.aload_n 0, 1) := by decide +kernel
theorem k121_11 : decode (mB 121) 11 = .ok (.dup, 1) := by decide +kernel
theorem k121_12 : decode (mB 121) 12 = .ok (.getfield 197, 3) ∧ tF (mO 121) 197 = some (10, 9, 0, 0) := by decide +kernel
theorem k121_15 : decode (mB 121) 15 = .ok (.iconst 1, 1) := by decide +kernel
theorem k121_16 : decode (mB 121) 16 = .ok (.isub, 1) := by decide +kernel
theorem k121_17 : decode (mB 121) 17 = .ok (.putfield 197, 3) ∧ tF (mO 121) 197 = some (10, 9, 0, 0) := by decide +kernel
theorem k121_20 : decode (mB 121) 20 = .ok (.aload_n 0, 1) := by decide +kernel
theorem k121_21 : decode (mB 121) 21 = .ok (.getfield 54, 3) ∧ tF (mO 121) 54 = some (10, 5, 1, 1) := by decide +kernel
theorem k121_24 : decode (mB 121) 24 = .ok (.aload_n 0, 1) := by decide +kernel
theorem k121_25 : decode (mB 121) 25 = .ok (.getfield 29, 3) ∧ tF (mO 121) 29 = some (10, 4, 1, 1) := by decide +kernel
theorem k121_28 : decode (mB 121) 28 = .ok (.aload_n 0, 1) := by decide +kernel
theorem k121_29 : decode (mB 121) 29 = .ok (.getfield 200, 3) ∧ tF (mO 121) 200 = some (10, 8, 0, 0) := by decide +kernel
theorem k121_32 : decode (mB 121) 32 = .ok (.aload_n 0, 1) := by decide +kernel
theorem k121_33 : decode (mB 121) 33 = .ok (.getfield 197, 3) ∧ tF (mO 121) 197 = some (10, 9, 0, 0) := by decide +kernel
theorem k121_36 : decode (mB 121) 36 = .ok (.iadd, 1) := by decide +kernel
theorem k121_37 : decode (mB 121) 37 = .ok (.bipush 24, 2) := by decide +kernel
theorem k121_39 : decode (mB 121) 39 = .ok (.irem, 1) := by decide +kernel
theorem k121_40 : decode (mB 121) 40 = .ok (.aaload, 1) := by decide +kernel
theorem k121_41 : decode (mB 121) 41 = .ok (.invokevirtual 142, 3) ∧ tVn (mO 121) 142 = some 1 ∧ tV (mO 121) 142 8 = some 102 := by decide +kernel
theorem k121_44 : decode (mB 121) 44 = .ok (.aload_n 0, 1) := by decide +kernel
theorem k121_45 : decode (mB 121) 45 = .ok (.getfield 197, 3) ∧ tF (mO 121) 197 = some (10, 9, 0, 0) := by decide +kernel
theorem k121_48 : decode (mB 121) 48 = .ok (.ireturn, 1) ∧ mR 121 = (some .int) := by decide +kernel
-- 122: ChairPast.chair:(II)I, locals 4
theorem l122 : mL 122 = 4 := by decide +kernel
theorem k122_0 : decode (mB 122) 0 = .ok (.aload_n 0, 1) := by decide +kernel
theorem k122_1 : decode (mB 122) 1 = .ok (.getfield 54, 3) ∧ tF (mO 122) 54 = some (10, 5, 1, 1) := by decide +kernel
theorem k122_4 : decode (mB 122) 4 = .ok (.iload_n 1, 1) := by decide +kernel
theorem k122_5 : decode (mB 122) 5 = .ok (.invokevirtual 155, 3) ∧ tVn (mO 122) 155 = some 1 ∧ tV (mO 122) 155 8 = some 84 := by decide +kernel
theorem k122_8 : decode (mB 122) 8 = .ok (.ifCond .ne 6, 3) := by decide +kernel
theorem k122_11 : decode (mB 122) 11 = .ok (.ldc 82, 2) ∧ tK (mO 122) 82 = some (-1000001) := by decide +kernel
theorem k122_13 : decode (mB 122) 13 = .ok (.ireturn, 1) ∧ mR 122 = (some .int) := by decide +kernel
theorem k122_14 : decode (mB 122) 14 = .ok (.aload_n 0, 1) := by decide +kernel
theorem k122_15 : decode (mB 122) 15 = .ok (.getfield 54, 3) ∧ tF (mO 122) 54 = some (10, 5, 1, 1) := by decide +kernel
theorem k122_18 : decode (mB 122) 18 = .ok (.getfield 181, 3) ∧ tF (mO 122) 181 = some (8, 1, 1, 1) := by decide +kernel
theorem k122_21 : decode (mB 122) 21 = .ok (.iload_n 1, 1) := by decide +kernel
theorem k122_22 : decode (mB 122) 22 = .ok (.aaload, 1) := by decide +kernel
theorem k122_23 : decode (mB 122) 23 = .ok (.astore_n 3, 1) := by decide +kernel
theorem k122_24 : decode (mB 122) 24 = .ok (.iload_n 2, 1) := by decide +kernel
theorem k122_25 : decode (mB 122) 25 = .ok (.tableswitch 60 0 4 #[35, 40, 45, 50, 55], 35) := by decide +kernel
theorem k122_60 : decode (mB 122) 60 = .ok (.aload_n 3, 1) := by decide +kernel
theorem k122_61 : decode (mB 122) 61 = .ok (.getfield 203, 3) ∧ tF (mO 122) 203 = some (1, 1, 0, 0) := by decide +kernel
theorem k122_64 : decode (mB 122) 64 = .ok (.ireturn, 1) ∧ mR 122 = (some .int) := by decide +kernel
theorem k122_65 : decode (mB 122) 65 = .ok (.aload_n 3, 1) := by decide +kernel
theorem k122_66 : decode (mB 122) 66 = .ok (.getfield 185, 3) ∧ tF (mO 122) 185 = some (1, 2, 0, 0) := by decide +kernel
theorem k122_69 : decode (mB 122) 69 = .ok (.ireturn, 1) ∧ mR 122 = (some .int) := by decide +kernel
theorem k122_70 : decode (mB 122) 70 = .ok (.aload_n 3, 1) := by decide +kernel
theorem k122_71 : decode (mB 122) 71 = .ok (.getfield 206, 3) ∧ tF (mO 122) 206 = some (1, 3, 0, 0) := by decide +kernel
theorem k122_74 : decode (mB 122) 74 = .ok (.ireturn, 1) ∧ mR 122 = (some .int) := by decide +kernel
theorem k122_75 : decode (mB 122) 75 = .ok (.aload_n 3, 1) := by decide +kernel
theorem k122_76 : decode (mB 122) 76 = .ok (.getfield 209, 3) ∧ tF (mO 122) 209 = some (1, 4, 0, 0) := by decide +kernel
theorem k122_79 : decode (mB 122) 79 = .ok (.ireturn, 1) ∧ mR 122 = (some .int) := by decide +kernel
theorem k122_80 : decode (mB 122) 80 = .ok (.aload_n 3, 1) := by decide +kernel
theorem k122_81 : decode (mB 122) 81 = .ok (.getfield 212, 3) ∧ tF (mO 122) 212 = some (1, 5, 0, 0) := by decide +kernel
theorem k122_84 : decode (mB 122) 84 = .ok (.ireturn, 1) ∧ mR 122 = (some .int) := by decide +kernel
theorem k122_85 : decode (mB 122) 85 = .ok (.ldc 82, 2) ∧ tK (mO 122) 82 = some (-1000001) := by decide +kernel
theorem k122_87 : decode (mB 122) 87 = .ok (.ireturn, 1) ∧ mR 122 = (some .int) := by decide +kernel
-- 123: ChairPast.guest:(II)I, locals 3
theorem l123 : mL 123 = 3 := by decide +kernel
theorem k123_0 : decode (mB 123) 0 = .ok (.aload_n 0, 1) := by decide +kernel
theorem k123_1 : decode (mB 123) 1 = .ok (.getfield 54, 3) ∧ tF (mO 123) 54 = some (10, 5, 1, 1) := by decide +kernel
theorem k123_4 : decode (mB 123) 4 = .ok (.iload_n 1, 1) := by decide +kernel
theorem k123_5 : decode (mB 123) 5 = .ok (.invokevirtual 152, 3) ∧ tVn (mO 123) 152 = some 1 ∧ tV (mO 123) 152 8 = some 85 := by decide +kernel
theorem k123_8 : decode (mB 123) 8 = .ok (.ifCond .ne 6, 3) := by decide +kernel
theorem k123_11 : decode (mB 123) 11 = .ok (.ldc 82, 2) ∧ tK (mO 123) 82 = some (-1000001) := by decide +kernel
theorem k123_13 : decode (mB 123) 13 = .ok (.ireturn, 1) ∧ mR 123 = (some .int) := by decide +kernel
theorem k123_14 : decode (mB 123) 14 = .ok (.iload_n 2, 1) := by decide +kernel
theorem k123_15 : decode (mB 123) 15 = .ok (.tableswitch 69 0 3 #[29, 39, 49, 59], 29) := by decide +kernel
theorem k123_44 : decode (mB 123) 44 = .ok (.aload_n 0, 1) := by decide +kernel
theorem k123_45 : decode (mB 123) 45 = .ok (.getfield 54, 3) ∧ tF (mO 123) 54 = some (10, 5, 1, 1) := by decide +kernel
theorem k123_48 : decode (mB 123) 48 = .ok (.getfield 215, 3) ∧ tF (mO 123) 215 = some (8, 2, 1, 1) := by decide +kernel
theorem k123_51 : decode (mB 123) 51 = .ok (.iload_n 1, 1) := by decide +kernel
theorem k123_52 : decode (mB 123) 52 = .ok (.iaload, 1) := by decide +kernel
theorem k123_53 : decode (mB 123) 53 = .ok (.ireturn, 1) ∧ mR 123 = (some .int) := by decide +kernel
theorem k123_54 : decode (mB 123) 54 = .ok (.aload_n 0, 1) := by decide +kernel
theorem k123_55 : decode (mB 123) 55 = .ok (.getfield 54, 3) ∧ tF (mO 123) 54 = some (10, 5, 1, 1) := by decide +kernel
theorem k123_58 : decode (mB 123) 58 = .ok (.getfield 218, 3) ∧ tF (mO 123) 218 = some (8, 3, 1, 1) := by decide +kernel
theorem k123_61 : decode (mB 123) 61 = .ok (.iload_n 1, 1) := by decide +kernel
theorem k123_62 : decode (mB 123) 62 = .ok (.iaload, 1) := by decide +kernel
theorem k123_63 : decode (mB 123) 63 = .ok (.ireturn, 1) ∧ mR 123 = (some .int) := by decide +kernel
theorem k123_64 : decode (mB 123) 64 = .ok (.aload_n 0, 1) := by decide +kernel
theorem k123_65 : decode (mB 123) 65 = .ok (.getfield 54, 3) ∧ tF (mO 123) 54 = some (10, 5, 1, 1) := by decide +kernel
theorem k123_68 : decode (mB 123) 68 = .ok (.getfield 175, 3) ∧ tF (mO 123) 175 = some (8, 4, 1, 1) := by decide +kernel
theorem k123_71 : decode (mB 123) 71 = .ok (.iload_n 1, 1) := by decide +kernel
theorem k123_72 : decode (mB 123) 72 = .ok (.iaload, 1) := by decide +kernel
theorem k123_73 : decode (mB 123) 73 = .ok (.ireturn, 1) ∧ mR 123 = (some .int) := by decide +kernel
theorem k123_74 : decode (mB 123) 74 = .ok (.aload_n 0, 1) := by decide +kernel
theorem k123_75 : decode (mB 123) 75 = .ok (.getfield 54, 3) ∧ tF (mO 123) 54 = some (10, 5, 1, 1) := by decide +kernel
theorem k123_78 : decode (mB 123) 78 = .ok (.getfield 172, 3) ∧ tF (mO 123) 172 = some (8, 5, 1, 1) := by decide +kernel
theorem k123_81 : decode (mB 123) 81 = .ok (.iload_n 1, 1) := by decide +kernel
theorem k123_82 : decode (mB 123) 82 = .ok (.iaload, 1) := by decide +kernel
theorem k123_83 : decode (mB 123) 83 = .ok (.ireturn, 1) ∧ mR 123 = (some .int) := by decide +kernel
theorem k123_84 : decode (mB 123) 84 = .ok (.ldc 82, 2) ∧ tK (mO 123) 82 = some (-1000001) := by decide +kernel
theorem k123_86 : decode (mB 123) 86 = .ok (.ireturn, 1) ∧ mR 123 = (some .int) := by decide +kernel
-- 124: ChairPast.peace:()I, locals 1
theorem l124 : mL 124 = 1 := by decide +kernel
theorem k124_0 : decode (mB 124) 0 = .ok (.aload_n 0, 1) := by decide +kernel
theorem k124_1 : decode (mB 124) 1 = .ok (.getfield 54, 3) ∧ tF (mO 124) 54 = some (10, 5, 1, 1) := by decide +kernel
theorem k124_4 : decode (mB 124) 4 = .ok (.invokevirtual 221, 3) ∧ tVn (mO 124) 221 = some 0 ∧ tV (mO 124) 221 8 = some 83 := by decide +kernel
theorem k124_7 : decode (mB 124) 7 = .ok (.ifCond .eq 13, 3) := by decide +kernel
theorem k124_10 : decode (mB 124) 10 = .ok (.aload_n 0, 1) := by decide +kernel
theorem k124_11 : decode (mB 124) 11 = .ok (.getfield 54, 3) ∧ tF (mO 124) 54 = some (10, 5, 1, 1) := by decide +kernel
theorem k124_14 : decode (mB 124) 14 = .ok (.invokevirtual 193, 3) ∧ tVn (mO 124) 193 = some 0 ∧ tV (mO 124) 193 8 = some 92 := by decide +kernel
theorem k124_17 : decode (mB 124) 17 = .ok (.goto 5, 3) := by decide +kernel
theorem k124_20 : decode (mB 124) 20 = .ok (.ldc 164, 2) ∧ tK (mO 124) 164 = some (-1000002) := by decide +kernel
theorem k124_22 : decode (mB 124) 22 = .ok (.ireturn, 1) ∧ mR 124 = (some .int) := by decide +kernel
-- 125: ChairPast.would:(III)I, locals 4
theorem l125 : mL 125 = 4 := by decide +kernel
theorem k125_0 : decode (mB 125) 0 = .ok (.aload_n 0, 1) := by decide +kernel
theorem k125_1 : decode (mB 125) 1 = .ok (.getfield 54, 3) ∧ tF (mO 125) 54 = some (10, 5, 1, 1) := by decide +kernel
theorem k125_4 : decode (mB 125) 4 = .ok (.iload_n 1, 1) := by decide +kernel
theorem k125_5 : decode (mB 125) 5 = .ok (.invokevirtual 152, 3) ∧ tVn (mO 125) 152 = some 1 ∧ tV (mO 125) 152 8 = some 85 := by decide +kernel
theorem k125_8 : decode (mB 125) 8 = .ok (.ifCond .eq 23, 3) := by decide +kernel
theorem k125_11 : decode (mB 125) 11 = .ok (.aload_n 0, 1) := by decide +kernel
theorem k125_12 : decode (mB 125) 12 = .ok (.getfield 54, 3) ∧ tF (mO 125) 54 = some (10, 5, 1, 1) := by decide +kernel
theorem k125_15 : decode (mB 125) 15 = .ok (.iload_n 2, 1) := by decide +kernel
theorem k125_16 : decode (mB 125) 16 = .ok (.invokevirtual 155, 3) ∧ tVn (mO 125) 155 = some 1 ∧ tV (mO 125) 155 8 = some 84 := by decide +kernel
theorem k125_19 : decode (mB 125) 19 = .ok (.ifCond .eq 12, 3) := by decide +kernel
theorem k125_22 : decode (mB 125) 22 = .ok (.iload_n 3, 1) := by decide +kernel
theorem k125_23 : decode (mB 125) 23 = .ok (.iconst 0, 1) := by decide +kernel
theorem k125_24 : decode (mB 125) 24 = .ok (.iconst 2, 1) := by decide +kernel
theorem k125_25 : decode (mB 125) 25 = .ok (.invokestatic 78, 3) ∧ tM (mO 125) 78 = none ∧ tS (mO 125) 78 = some 143 := by decide +kernel
theorem k125_28 : decode (mB 125) 28 = .ok (.ifCond .ne 6, 3) := by decide +kernel
theorem k125_31 : decode (mB 125) 31 = .ok (.ldc 82, 2) ∧ tK (mO 125) 82 = some (-1000001) := by decide +kernel
theorem k125_33 : decode (mB 125) 33 = .ok (.ireturn, 1) ∧ mR 125 = (some .int) := by decide +kernel
theorem k125_34 : decode (mB 125) 34 = .ok (.aload_n 0, 1) := by decide +kernel
theorem k125_35 : decode (mB 125) 35 = .ok (.getfield 70, 3) ∧ tF (mO 125) 70 = some (10, 7, 1, 1) := by decide +kernel
theorem k125_38 : decode (mB 125) 38 = .ok (.iload_n 1, 1) := by decide +kernel
theorem k125_39 : decode (mB 125) 39 = .ok (.iload_n 2, 1) := by decide +kernel
theorem k125_40 : decode (mB 125) 40 = .ok (.iload_n 3, 1) := by decide +kernel
theorem k125_41 : decode (mB 125) 41 = .ok (.invokevirtual 224, 3) ∧ tVn (mO 125) 224 = some 3 ∧ tV (mO 125) 224 3 = some 20 := by decide +kernel
theorem k125_44 : decode (mB 125) 44 = .ok (.ireturn, 1) ∧ mR 125 = (some .int) := by decide +kernel
-- 126: ChairPast.seating:(I)I, locals 2
theorem l126 : mL 126 = 2 := by decide +kernel
theorem k126_0 : decode (mB 126) 0 = .ok (.aload_n 0, 1) := by decide +kernel
theorem k126_1 : decode (mB 126) 1 = .ok (.getfield 54, 3) ∧ tF (mO 126) 54 = some (10, 5, 1, 1) := by decide +kernel
theorem k126_4 : decode (mB 126) 4 = .ok (.invokevirtual 221, 3) ∧ tVn (mO 126) 221 = some 0 ∧ tV (mO 126) 221 8 = some 83 := by decide +kernel
theorem k126_7 : decode (mB 126) 7 = .ok (.ifCond .ne 6, 3) := by decide +kernel
theorem k126_10 : decode (mB 126) 10 = .ok (.ldc 164, 2) ∧ tK (mO 126) 164 = some (-1000002) := by decide +kernel
theorem k126_12 : decode (mB 126) 12 = .ok (.ireturn, 1) ∧ mR 126 = (some .int) := by decide +kernel
theorem k126_13 : decode (mB 126) 13 = .ok (.iload_n 1, 1) := by decide +kernel
theorem k126_14 : decode (mB 126) 14 = .ok (.iconst (-1), 1) := by decide +kernel
theorem k126_15 : decode (mB 126) 15 = .ok (.iconst 4, 1) := by decide +kernel
theorem k126_16 : decode (mB 126) 16 = .ok (.invokestatic 78, 3) ∧ tM (mO 126) 78 = none ∧ tS (mO 126) 78 = some 143 := by decide +kernel
theorem k126_19 : decode (mB 126) 19 = .ok (.ifCond .ne 6, 3) := by decide +kernel
theorem k126_22 : decode (mB 126) 22 = .ok (.ldc 82, 2) ∧ tK (mO 126) 82 = some (-1000001) := by decide +kernel
theorem k126_24 : decode (mB 126) 24 = .ok (.ireturn, 1) ∧ mR 126 = (some .int) := by decide +kernel
theorem k126_25 : decode (mB 126) 25 = .ok (.aload_n 0, 1) := by decide +kernel
theorem k126_26 : decode (mB 126) 26 = .ok (.getfield 70, 3) ∧ tF (mO 126) 70 = some (10, 7, 1, 1) := by decide +kernel
theorem k126_29 : decode (mB 126) 29 = .ok (.iload_n 1, 1) := by decide +kernel
theorem k126_30 : decode (mB 126) 30 = .ok (.invokevirtual 228, 3) ∧ tVn (mO 126) 228 = some 1 ∧ tV (mO 126) 228 3 = some 21 := by decide +kernel
theorem k126_33 : decode (mB 126) 33 = .ok (.ireturn, 1) ∧ mR 126 = (some .int) := by decide +kernel
-- 127: ChairPast.warm:(IIII)I, locals 6
theorem l127 : mL 127 = 6 := by decide +kernel
theorem k127_0 : decode (mB 127) 0 = .ok (.aload_n 0, 1) := by decide +kernel
theorem k127_1 : decode (mB 127) 1 = .ok (.getfield 54, 3) ∧ tF (mO 127) 54 = some (10, 5, 1, 1) := by decide +kernel
theorem k127_4 : decode (mB 127) 4 = .ok (.iload_n 1, 1) := by decide +kernel
theorem k127_5 : decode (mB 127) 5 = .ok (.invokevirtual 152, 3) ∧ tVn (mO 127) 152 = some 1 ∧ tV (mO 127) 152 8 = some 85 := by decide +kernel
theorem k127_8 : decode (mB 127) 8 = .ok (.ifCond .eq 34, 3) := by decide +kernel
theorem k127_11 : decode (mB 127) 11 = .ok (.aload_n 0, 1) := by decide +kernel
theorem k127_12 : decode (mB 127) 12 = .ok (.getfield 54, 3) ∧ tF (mO 127) 54 = some (10, 5, 1, 1) := by decide +kernel
theorem k127_15 : decode (mB 127) 15 = .ok (.iload_n 2, 1) := by decide +kernel
theorem k127_16 : decode (mB 127) 16 = .ok (.invokevirtual 155, 3) ∧ tVn (mO 127) 155 = some 1 ∧ tV (mO 127) 155 8 = some 84 := by decide +kernel
theorem k127_19 : decode (mB 127) 19 = .ok (.ifCond .eq 23, 3) := by decide +kernel
theorem k127_22 : decode (mB 127) 22 = .ok (.iload_n 3, 1) := by decide +kernel
theorem k127_23 : decode (mB 127) 23 = .ok (.iconst 0, 1) := by decide +kernel
theorem k127_24 : decode (mB 127) 24 = .ok (.bipush 9, 2) := by decide +kernel
theorem k127_26 : decode (mB 127) 26 = .ok (.invokestatic 78, 3) ∧ tM (mO 127) 78 = none ∧ tS (mO 127) 78 = some 143 := by decide +kernel
theorem k127_29 : decode (mB 127) 29 = .ok (.ifCond .eq 13, 3) := by decide +kernel
theorem k127_32 : decode (mB 127) 32 = .ok (.iload 4, 2) := by decide +kernel
theorem k127_34 : decode (mB 127) 34 = .ok (.iconst (-1), 1) := by decide +kernel
theorem k127_35 : decode (mB 127) 35 = .ok (.iconst 2, 1) := by decide +kernel
theorem k127_36 : decode (mB 127) 36 = .ok (.invokestatic 78, 3) ∧ tM (mO 127) 78 = none ∧ tS (mO 127) 78 = some 143 := by decide +kernel
theorem k127_39 : decode (mB 127) 39 = .ok (.ifCond .ne 6, 3) := by decide +kernel
theorem k127_42 : decode (mB 127) 42 = .ok (.ldc 82, 2) ∧ tK (mO 127) 82 = some (-1000001) := by decide +kernel
theorem k127_44 : decode (mB 127) 44 = .ok (.ireturn, 1) ∧ mR 127 = (some .int) := by decide +kernel
theorem k127_45 : decode (mB 127) 45 = .ok (.aload_n 0, 1) := by decide +kernel
theorem k127_46 : decode (mB 127) 46 = .ok (.getfield 70, 3) ∧ tF (mO 127) 70 = some (10, 7, 1, 1) := by decide +kernel
theorem k127_49 : decode (mB 127) 49 = .ok (.iload_n 1, 1) := by decide +kernel
theorem k127_50 : decode (mB 127) 50 = .ok (.iload_n 2, 1) := by decide +kernel
theorem k127_51 : decode (mB 127) 51 = .ok (.iload_n 3, 1) := by decide +kernel
theorem k127_52 : decode (mB 127) 52 = .ok (.invokevirtual 231, 3) ∧ tVn (mO 127) 231 = some 3 ∧ tV (mO 127) 231 3 = some 24 := by decide +kernel
theorem k127_55 : decode (mB 127) 55 = .ok (.istore 5, 2) := by decide +kernel
theorem k127_57 : decode (mB 127) 57 = .ok (.iload 4, 2) := by decide +kernel
theorem k127_59 : decode (mB 127) 59 = .ok (.iconst (-1), 1) := by decide +kernel
theorem k127_60 : decode (mB 127) 60 = .ok (.if_icmp .eq 10, 3) := by decide +kernel
theorem k127_63 : decode (mB 127) 63 = .ok (.iload 5, 2) := by decide +kernel
theorem k127_65 : decode (mB 127) 65 = .ok (.ldc 234, 2) ∧ tK (mO 127) 234 = some (-1000000) := by decide +kernel
theorem k127_67 : decode (mB 127) 67 = .ok (.if_icmp .ne 6, 3) := by decide +kernel
theorem k127_70 : decode (mB 127) 70 = .ok (.iload 5, 2) := by decide +kernel
theorem k127_72 : decode (mB 127) 72 = .ok (.ireturn, 1) ∧ mR 127 = (some .int) := by decide +kernel
theorem k127_73 : decode (mB 127) 73 = .ok (.iload 4, 2) := by decide +kernel
theorem k127_75 : decode (mB 127) 75 = .ok (.iload 5, 2) := by decide +kernel
theorem k127_77 : decode (mB 127) 77 = .ok (.if_icmp .ge 15, 3) := by decide +kernel
theorem k127_80 : decode (mB 127) 80 = .ok (.aload_n 0, 1) := by decide +kernel
theorem k127_81 : decode (mB 127) 81 = .ok (.getfield 70, 3) ∧ tF (mO 127) 70 = some (10, 7, 1, 1) := by decide +kernel
theorem k127_84 : decode (mB 127) 84 = .ok (.iload 4, 2) := by decide +kernel
theorem k127_86 : decode (mB 127) 86 = .ok (.invokevirtual 235, 3) ∧ tVn (mO 127) 235 = some 1 ∧ tV (mO 127) 235 3 = some 25 := by decide +kernel
theorem k127_89 : decode (mB 127) 89 = .ok (.goto 5, 3) := by decide +kernel
theorem k127_92 : decode (mB 127) 92 = .ok (.ldc 234, 2) ∧ tK (mO 127) 234 = some (-1000000) := by decide +kernel
theorem k127_94 : decode (mB 127) 94 = .ok (.ireturn, 1) ∧ mR 127 = (some .int) := by decide +kernel
