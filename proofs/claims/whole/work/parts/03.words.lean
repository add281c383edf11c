/-- the words that stay true whatever has been resolved -/
def jW : List Cond := lw_tbl.filter goodWord

theorem jW_mem {w : Cond} {i : Nat} (h : lw_tbl[i]? = some w) (hg : goodWord w = true) : w ∈ jW := List.mem_filter.mpr ⟨List.mem_of_getElem? h, hg⟩

def mPl : List Nat := [132, 508, 586, 619, 926, 589, 160, 752, 580, 796, 702, 502, 537, 146, 511, 596, 941, 286, 735, 706, 698, 715, 741, 745, 762, 776, 766, 771, 784, 792, 800, 824, 828, 836, 840, 844, 852, 856, 865, 868, 877, 883, 118, 954, 937, 90, 375, 379, 446, 402, 529, 533, 115, 514, 603, 622, 917, 934, 593, 257, 422, 492, 430, 462, 469, 478, 482, 434, 455, 438, 442, 458, 465, 451, 125, 517, 607, 951, 931, 153, 426, 473, 486, 690, 558, 554, 562, 566, 576, 632, 640, 653, 658, 662, 669, 808, 812, 860, 719, 730, 887, 496, 525, 139, 520, 599, 625, 945, 957, 81, 359, 387, 398, 409, 413, 418, 546, 550, 636, 645, 649, 674, 678, 682, 686, 694, 711, 758, 780, 788, 804, 816, 832, 848, 872, 891, 895, 899, 904, 911, 963, 968, 978, 365, 362, 391, 972, 394, 820, 370, 383, 571, 542, 907, 983, 1069, 1279, 1074, 1079, 1154, 1066, 1087, 1090, 1063, 1083, 1098, 1094, 1102, 1106, 1119, 1115, 1127, 1123, 1131, 1134, 1146, 1142, 1150, 1138, 1111, 1158, 1228, 1170, 1166, 1190, 1187, 1184, 1173, 1181, 1205, 1208, 1178, 1162, 1194, 1198, 1202, 1212, 1216, 1220, 1224, 1232, 1244, 1240, 1236, 1248, 1252, 1260, 1256, 1264, 1268, 1272, 1283, 1276, 1287, 1294, 1298, 1306, 1302, 1310, 1322, 1330, 1318, 1326, 1334, 1314, 1338, 1346, 1350, 1342, 1354]

theorem mT_own : (List.range 230).all (fun m => decide ((mY m).cls = oN (mO m)) && decide (mO m < 13)) = true := by decide +kernel

theorem mT_plain : (List.range 13).all (fun o => plainName (oN o) && decide (oN o ≠ "java/lang/invoke/MethodHandle") && decide (oN o ≠ "java/lang/invoke/VarHandle")) = true := by decide +kernel

theorem mT_par : (List.range 230).all (fun m => decide ((parseMethodDescriptor (mY m).desc).map (fun d => d.parameters.length) = some (mP m)) && decide (mL m ≤ 20)) = true := by decide +kernel

theorem tF_ok : tFl.all (fun e => decide (lw_tbl[e.2.2.1]? = some (.fieldLink (oN e.1) e.2.1 (cT e.2.2.2.1 e.2.2.2.2.1).1 (cT e.2.2.2.1 e.2.2.2.2.1).2.1 (cT e.2.2.2.1 e.2.2.2.2.1).2.2.1)) && decide (e.2.2.2.2.1 < cF e.2.2.2.1) && decide (e.2.2.2.1 < 12) && decide (fR e.2.2.2.1 e.2.2.2.2.1 = (e.2.2.2.2.2.1 == 1)) && decide ((cT e.2.2.2.1 e.2.2.2.2.1).2.2.2 = (e.2.2.2.2.2.2 == 1))) = true := by decide +kernel

theorem tK_ok : tKl.all (fun e => decide (lw_tbl[e.2.2.1]? = some (.constant (oN e.1) e.2.1 (Int32.ofInt e.2.2.2)))) = true := by decide +kernel

theorem tKK_ok : tKKl.all (fun e => decide (lw_tbl[e.2.2.1]? = some (.constantLong (oN e.1) e.2.1 (Int64.ofInt e.2.2.2)))) = true := by decide +kernel

theorem tN_ok : tNl.all (fun e => decide (lw_tbl[e.2.2.1]? = some (.classLink (oN e.1) e.2.1 (cN e.2.2.2.1))) && decide (lw_tbl[e.2.2.2.2.1]? = some (.instantiable (cN e.2.2.2.1) (cF e.2.2.2.1))) && decide (lw_tbl[e.2.2.2.2.2]? = some (.initialized (cN e.2.2.2.1))) && decide (e.2.2.2.1 < 12)) = true := by decide +kernel

/-- what an array of a tag holds -/
def aT (t : Nat) : FieldType := if t = 50 then .int else if t = 51 then .boolean else if t = 52 then .object RX5 else if t = 53 then .object RX4 else .object RX1
def aC (t : Nat) : String := if t = 52 then RX5 else if t = 53 then RX4 else RX1

theorem tA_ok : tAl.all (fun e => decide (lw_tbl[e.2.2.1]? = some (.classLink (oN e.1) e.2.1 (aC e.2.2.2.1))) && decide (lw_tbl[e.2.2.2.2]? = some (.arrayOver (.object (aC e.2.2.2.1)))) && decide (52 ≤ e.2.2.2.1) && decide (e.2.2.2.1 ≤ 54)) = true := by decide +kernel

theorem tO_ok : tOl.all (fun e => decide (lw_tbl[e.2.2.1]? = some (.classLink (oN e.1) e.2.1 (oN e.2.2.2)))) = true := by decide +kernel

theorem tS_ok : tSl.all (fun e => decide (lw_tbl[e.2.2.2.1]? = some (.methodLink (oN e.1) e.2.1 (if e.2.2.2.2.2.2 = 0 then mY e.2.2.1 else ⟨oN e.1, (mY e.2.2.1).name, (mY e.2.2.1).desc⟩))) && decide (lw_tbl[e.2.2.2.2.1]? = some (.static (mY e.2.2.1))) && decide (lw_tbl[e.2.2.2.2.2.1]? = some (.initialized (mY e.2.2.1).cls)) && decide (e.2.2.1 < 230) && (e.2.2.2.2.2.2 == 0 || decide (lw_tbl[e.2.2.2.2.2.2]? = some (.sameMethod (oN e.1) (mY e.2.2.1).cls (mY e.2.2.1).name (mY e.2.2.1).desc)))) = true := by decide +kernel

theorem tM_ok : tMl.all (fun e => decide (lw_tbl[e.2.2.2]? = some (.methodLink (oN e.1) e.2.1 (match e.2.2.1 with | 0 => arraycopyName | 1 => ⟨RJ6, "bitCount", "(I)I"⟩ | 2 => Lib.Math.abs.name | 3 => Lib.Math.max.name | _ => Lib.Math.min.name)))) = true := by decide +kernel

theorem tI_ok : tIl.all (fun e => decide (lw_tbl[e.2.2.2.1]? = some (.methodLink (oN e.1) e.2.1 (mY e.2.2.1))) && decide (lw_tbl[e.2.2.2.2.1]? = some (.instanceMethod (mY e.2.2.1))) && decide (lw_tbl[e.2.2.2.2.2]? = some (.initialized (mY e.2.2.1).cls)) && decide (e.2.2.1 < 230) && decide ((mY e.2.2.1).name = "<init>") && decide (mR e.2.2.1 = none)) = true := by decide +kernel

theorem tJ_ok : tJl.all (fun e => decide (lw_tbl[e.2.2.2.1]? = some (.methodLinkNest (oN e.1) e.2.1 (mY e.2.2.1) RX11)) && decide (lw_tbl[e.2.2.2.2.1]? = some (.instanceMethod (mY e.2.2.1))) && decide (lw_tbl[e.2.2.2.2.2]? = some (.initialized (mY e.2.2.1).cls)) && decide (e.2.2.1 < 230) && decide ((mY e.2.2.1).name = "<init>") && decide (mR e.2.2.1 = none)) = true := by decide +kernel

theorem tB_ok : tBl.all (fun e => decide (lw_tbl[e.2.2]? = some (.methodLink (oN e.1) e.2.1 objectInit))) = true := by decide +kernel

theorem tP_ok : tPl.all (fun e => decide (lw_tbl[e.2.2.2.1]? = some (.methodLink (oN e.1) e.2.1 (mY e.2.2.1))) && decide (lw_tbl[e.2.2.2.2.1]? = some (.instanceMethod (mY e.2.2.1))) && decide (lw_tbl[e.2.2.2.2.2.1]? = some (.initialized (mY e.2.2.1).cls)) && decide (lw_tbl[e.2.2.2.2.2.2.1]? = some (.sameMethod (mY e.2.2.1).cls (mY e.2.2.1).cls (mY e.2.2.1).name (mY e.2.2.1).desc)) && decide (lw_tbl[e.2.2.2.2.2.2.2]? = some (.superclass (oN e.1) (mY e.2.2.1).cls)) && decide (e.2.2.1 < 230) && !((mY e.2.2.1).name == "<init>")) = true := by decide +kernel

theorem tV_ok0 : tVl.all (fun e => decide (lw_tbl[e.2.2.2.2.2.2.2.1]? = some (.instanceMethod (mY e.2.2.2.2.1))) && decide (lw_tbl[e.2.2.2.2.2.2.2.2.1]? = some (.initialized (mY e.2.2.2.2.1).cls)) && decide (e.2.2.2.2.1 < 230) && decide (mP e.2.2.2.2.1 = e.2.2.1) && decide (e.2.2.2.1 < 12)) = true := by decide +kernel

theorem tV_ok1 : tVl.all (fun e => !(e.2.2.2.2.2.2.2.2.2.1 == 0) || (decide (lw_tbl[e.2.2.2.2.2.1]? = some (.methodLink (oN e.1) e.2.1 (mY e.2.2.2.2.1))) && decide (lw_tbl[e.2.2.2.2.2.2.1]? = some (.selects (cN e.2.2.2.1) (mY e.2.2.2.2.1) (mY e.2.2.2.2.1))) && decide ((mY e.2.2.2.2.1).cls = cN e.2.2.2.1))) = true := by decide +kernel

/-- the methods that a call may name and another runs: of Kind, Plain, Throne -/
def vX (y : MethodName) (k : Nat) : MethodName := ⟨if k = 0 then RX4 else if k = 1 then RX6 else RX10, y.name, y.desc⟩
