/-! THE LAW'S BYTES, CASE BY CASE -/
set_option maxRecDepth 100000 in
theorem ob_0 : opB 180 3 13 17 = true := by decide +kernel
set_option maxRecDepth 100000 in
theorem ob_1 : opB 223 3 18 21 = true := by decide +kernel
set_option maxRecDepth 100000 in
theorem ob_2 : opB 266 5 22 26 = true := by decide +kernel
set_option maxRecDepth 100000 in
theorem ob_3 : opB 329 1 27 31 = true := by decide +kernel
set_option maxRecDepth 100000 in
theorem ob_4 : opB 352 1 32 35 = true := by decide +kernel
set_option maxRecDepth 100000 in
theorem ob_5 : opB 375 0 36 40 = true := by decide +kernel
set_option maxRecDepth 100000 in
theorem ob_6 : opB 388 0 41 44 = true := by decide +kernel
set_option maxRecDepth 100000 in
theorem ob_7 : opB 401 2 45 49 = true := by decide +kernel
set_option maxRecDepth 100000 in
theorem ob_8 : opB 434 1 50 53 = true := by decide +kernel
set_option maxRecDepth 100000 in
theorem ob_9 : opB 457 1 54 57 = true := by decide +kernel
set_option maxRecDepth 100000 in
theorem ob_10 : opB 480 1 58 61 = true := by decide +kernel
set_option maxRecDepth 100000 in
theorem ob_11 : opB 503 0 62 65 = true := by decide +kernel
set_option maxRecDepth 100000 in
theorem ob_12 : opB 516 2 66 69 = true := by decide +kernel
set_option maxRecDepth 100000 in
theorem ob_13 : opB 549 2 70 73 = true := by decide +kernel
set_option maxRecDepth 100000 in
theorem ob_14 : opB 582 0 74 77 = true := by decide +kernel
set_option maxRecDepth 100000 in
theorem ob_15 : opB 595 3 78 81 = true := by decide +kernel
set_option maxRecDepth 100000 in
theorem ob_16 : opB 638 1 82 85 = true := by decide +kernel
set_option maxRecDepth 100000 in
theorem ob_17 : opB 661 4 86 90 = true := by decide +kernel
set_option maxRecDepth 100000 in
theorem ob_18 : opB 714 2 91 94 = true := by decide +kernel
set_option maxRecDepth 100000 in
theorem ob_19 : opB 747 4 95 98 = true := by decide +kernel
set_option maxRecDepth 100000 in
theorem ob_20 : opB 800 1 99 102 = true := by decide +kernel
set_option maxRecDepth 100000 in
theorem ob_21 : opB 823 3 103 106 = true := by decide +kernel
set_option maxRecDepth 100000 in
theorem ob_22 : opB 866 4 107 110 = true := by decide +kernel
set_option maxRecDepth 100000 in
theorem ob_23 : opB 919 3 111 114 = true := by decide +kernel
set_option maxRecDepth 100000 in
theorem ob_24 : opB 962 3 115 118 = true := by decide +kernel
set_option maxRecDepth 100000 in
theorem ob_25 : opB 1005 1 119 122 = true := by decide +kernel
set_option maxRecDepth 100000 in
theorem ob_26 : opB 1028 1 123 126 = true := by decide +kernel
set_option maxRecDepth 100000 in
theorem ob_27 : opB 1051 1 127 130 = true := by decide +kernel
set_option maxRecDepth 100000 in
theorem ob_28 : opB 1074 2 131 134 = true := by decide +kernel
set_option maxRecDepth 100000 in
theorem ob_29 : opB 1107 2 135 138 = true := by decide +kernel
set_option maxRecDepth 100000 in
theorem ob_30 : opB 1140 1 139 142 = true := by decide +kernel
set_option maxRecDepth 100000 in
theorem ob_31 : opB 1163 1 143 146 = true := by decide +kernel
set_option maxRecDepth 100000 in
theorem ob_32 : opB 1186 0 147 150 = true := by decide +kernel
theorem lop_d : ∀ t, t < 33 → opD (lop t).1 (lop t).2.1 (lop t).2.2.1 (lop t).2.2.2.2.1
  | 0, _ => opB_D ob_0
  | 1, _ => opB_D ob_1
  | 2, _ => opB_D ob_2
  | 3, _ => opB_D ob_3
  | 4, _ => opB_D ob_4
  | 5, _ => opB_D ob_5
  | 6, _ => opB_D ob_6
  | 7, _ => opB_D ob_7
  | 8, _ => opB_D ob_8
  | 9, _ => opB_D ob_9
  | 10, _ => opB_D ob_10
  | 11, _ => opB_D ob_11
  | 12, _ => opB_D ob_12
  | 13, _ => opB_D ob_13
  | 14, _ => opB_D ob_14
  | 15, _ => opB_D ob_15
  | 16, _ => opB_D ob_16
  | 17, _ => opB_D ob_17
  | 18, _ => opB_D ob_18
  | 19, _ => opB_D ob_19
  | 20, _ => opB_D ob_20
  | 21, _ => opB_D ob_21
  | 22, _ => opB_D ob_22
  | 23, _ => opB_D ob_23
  | 24, _ => opB_D ob_24
  | 25, _ => opB_D ob_25
  | 26, _ => opB_D ob_26
  | 27, _ => opB_D ob_27
  | 28, _ => opB_D ob_28
  | 29, _ => opB_D ob_29
  | 30, _ => opB_D ob_30
  | 31, _ => opB_D ob_31
  | 32, _ => opB_D ob_32
  | t + 33, h => absurd h (by omega)
