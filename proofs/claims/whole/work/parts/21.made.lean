/-! THE TWO OBJECTS, MADE: what the constructors leave, by the kernel -/
def shXl : List (Nat × Nat) := [(10, 0), (52, 8), (50, 8), (4, 0), (50, 16), (52, 2), (52, 24), (53, 5), (5, 0), (7, 0), (0, 0), (9, 0), (2, 0), (8, 0), (54, 5), (50, 5), (50, 5), (50, 5), (50, 5), (1, 0), (1, 0), (1, 0), (1, 0), (1, 0), (6, 0), (4, 0), (50, 100), (4, 0), (50, 53), (8, 0), (54, 5), (50, 5), (50, 5), (50, 5), (50, 5), (1, 0), (1, 0), (1, 0), (1, 0), (1, 0), (3, 0), (4, 0), (50, 53), (50, 3), (50, 5), (8, 0), (54, 5), (50, 5), (50, 5), (50, 5), (50, 5), (1, 0), (1, 0), (1, 0), (1, 0), (1, 0), (1, 0), (4, 0), (50, 40), (4, 0), (50, 40), (4, 0), (50, 40), (4, 0), (50, 40), (4, 0), (50, 40), (4, 0), (50, 40), (4, 0), (50, 40), (4, 0), (50, 40), (4, 0), (50, 53), (4, 0), (50, 53), (4, 0), (50, 53), (4, 0), (50, 53), (4, 0), (50, 53), (4, 0), (50, 53), (4, 0), (50, 53), (4, 0), (50, 53), (4, 0), (50, 53), (4, 0), (50, 53), (4, 0), (50, 53), (4, 0), (50, 53), (4, 0), (50, 53), (4, 0), (50, 53), (4, 0), (50, 53), (4, 0), (50, 53), (4, 0), (50, 53), (4, 0), (50, 53), (4, 0), (50, 53), (4, 0), (50, 53), (4, 0), (50, 53), (4, 0), (50, 53), (4, 0), (50, 53), (4, 0), (50, 53), (4, 0), (50, 53), (4, 0), (50, 53)]
def shX (k : Nat) : Nat × Nat := shXl.getD k (0, 0)
def shMl : List (Nat × Nat) := [(11, 0), (50, 8), (50, 8), (50, 320), (50, 40), (50, 100), (50, 48), (50, 48), (50, 48), (50, 1152), (50, 96), (51, 2), (50, 5), (50, 5), (50, 16)]
def shM (k : Nat) : Nat × Nat := shMl.getD k (0, 0)

/-- the class's own cells: which chairs the room holds (ch), of which kind a chair is (kd) -/
def isCh (a : Nat) : Bool := (Nat.ble 19 a && Nat.ble a 23) || (Nat.ble 35 a && Nat.ble a 39) || (Nat.ble 51 a && Nat.ble a 56)
def isLn (a : Nat) : Bool := a == 3 || a == 25 || a == 27 || a == 41 || (Nat.ble 57 a && Nat.ble a 123 && a % 2 == 1)
def rX (ch : Int → Nat) (kd : Nat → Nat) (a : Nat) (b : Int) : Option Nat :=
  if a == 14 then (if decide (0 ≤ b) && decide (b < 5) then some (ch b) else none)
  else if isCh a then (if b = 0 then some (kd a) else none)
  else if isLn a then (if b = 0 then some (a + 1) else none)
  else if a == 0 then (if b = 0 then some 1 else if b = 1 then some 2 else if b = 2 then some 3 else if b = 3 then some 5 else if b = 4 then some 6 else if b = 5 then some 13 else if b = 6 then some 24 else if b = 7 then some 40 else none)
  else if a == 1 then (if decide (0 ≤ b) && decide (b < 8) then some (57 + 2 * b.toNat) else none)
  else if a == 5 then (if decide (0 ≤ b) && decide (b < 2) then some (73 + 2 * b.toNat) else none)
  else if a == 6 then (if decide (0 ≤ b) && decide (b < 24) then some (77 + 2 * b.toNat) else none)
  else if a == 7 then (if decide (0 ≤ b) && decide (b < 5) then some (8 + b.toNat) else none)
  else if a == 30 || a == 46 then (if decide (0 ≤ b) && decide (b < 5) then some (a + 5 + b.toNat) else none)
  else if a == 13 || a == 29 || a == 45 then (if b = 0 then some 7 else if decide (1 ≤ b) && decide (b ≤ 5) then some (a + b.toNat) else none)
  else if a == 24 then (if b = 0 then some 25 else if b = 1 then some 27 else if b = 2 then some 29 else none)
  else if a == 40 then (if b = 0 then some 13 else if b = 1 then some 45 else if b = 2 then some 7 else if b = 3 then some 56 else if b = 4 then some 41 else if b = 5 then some 43 else if b = 6 then some 44 else none)
  else none
def iX (a : Nat) (b : Int) : Int := if a == 2 then -1 else if isCh a && decide (b = 5) then -1000000 else 0
def rM (a : Nat) (b : Int) : Option Nat := if a == 0 then (if b = 0 then some 1 else if b = 1 then some 2 else if b = 2 then some 3 else if b = 3 then some 4 else if b = 5 then some 5 else if b = 13 then some 6 else if b = 14 then some 7 else if b = 15 then some 8 else if b = 16 then some 9 else if b = 18 then some 10 else if b = 19 then some 11 else if b = 20 then some 12 else if b = 21 then some 13 else if b = 22 then some 14 else none) else none
def iM (a : Nat) (_ : Int) : Int := if a == 1 then -1000000 else 0
def sX0 : jS := (true, 1, 12, (fun a => if a = 0 then (10, 0) else (0, 0)), (fun _ _ => 0), (fun _ _ => none))
def sM0 : jS := (true, 1, 24, (fun a => if a = 0 then (11, 0) else (0, 0)), (fun _ _ => 0), (fun _ _ => none))
/-- how many places a cell has -/
def plc (q : Nat × Nat) : Nat := if q.1 < 12 then cF q.1 else q.2
def chk (n sl : Nat) (sh : Nat → Nat × Nat) (I : Nat → Int → Int) (R : Nat → Int → Option Nat) (o : Option (Option jV × jS)) : Bool := match o with
  | some (none, σ) => σ.1 && (σ.2.1 == n) && (σ.2.2.1 == sl) && (List.range n).all (fun k => decide (σ.2.2.2.1 k = sh k) && (List.range (plc (sh k))).all (fun j => decide (σ.2.2.2.2.1 k j = I k j) && decide (σ.2.2.2.2.2 k j = R k j)))
  | _ => false
set_option maxRecDepth 100000 in
theorem mk_M : chk 15 1920 shM iM rM (run 1000 10 154 0 (iniL (mL 154) [vr 0]) [] sM0) = true := by decide +kernel
def chkn (o : Option (Option jV × jS)) : Bool := match o with
  | some (none, σ) => σ.1 && (σ.2.1 == 125) && (σ.2.2.1 == 2312)
  | _ => false
set_option maxRecDepth 100000 in
theorem mk_X0 : chkn (run 3000 10 109 0 (iniL (mL 109) [vr 0]) [] sX0) = true := by decide +kernel
def chkp (lo n : Nat) (sh : Nat → Nat × Nat) (I : Nat → Int → Int) (R : Nat → Int → Option Nat) (o : Option (Option jV × jS)) : Bool := match o with
  | some (none, σ) => (List.range n).all (fun i => decide (σ.2.2.2.1 (lo + i) = sh (lo + i)) && (List.range (plc (sh (lo + i)))).all (fun j => decide (σ.2.2.2.2.1 (lo + i) j = I (lo + i) j) && decide (σ.2.2.2.2.2 (lo + i) j = R (lo + i) j)))
  | _ => false

set_option maxRecDepth 100000 in
theorem mk_X1 : chkp 0 27 shX iX (rX (fun i => 19 + i.toNat) (fun _ => 8)) (run 3000 10 109 0 (iniL (mL 109) [vr 0]) [] sX0) = true := by decide +kernel

set_option maxRecDepth 100000 in
theorem mk_X2 : chkp 27 25 shX iX (rX (fun i => 19 + i.toNat) (fun _ => 8)) (run 3000 10 109 0 (iniL (mL 109) [vr 0]) [] sX0) = true := by decide +kernel

set_option maxRecDepth 100000 in
theorem mk_X3 : chkp 52 15 shX iX (rX (fun i => 19 + i.toNat) (fun _ => 8)) (run 3000 10 109 0 (iniL (mL 109) [vr 0]) [] sX0) = true := by decide +kernel

set_option maxRecDepth 100000 in
theorem mk_X4 : chkp 67 10 shX iX (rX (fun i => 19 + i.toNat) (fun _ => 8)) (run 3000 10 109 0 (iniL (mL 109) [vr 0]) [] sX0) = true := by decide +kernel

set_option maxRecDepth 100000 in
theorem mk_X5 : chkp 77 10 shX iX (rX (fun i => 19 + i.toNat) (fun _ => 8)) (run 3000 10 109 0 (iniL (mL 109) [vr 0]) [] sX0) = true := by decide +kernel

set_option maxRecDepth 100000 in
theorem mk_X6 : chkp 87 10 shX iX (rX (fun i => 19 + i.toNat) (fun _ => 8)) (run 3000 10 109 0 (iniL (mL 109) [vr 0]) [] sX0) = true := by decide +kernel

set_option maxRecDepth 100000 in
theorem mk_X7 : chkp 97 10 shX iX (rX (fun i => 19 + i.toNat) (fun _ => 8)) (run 3000 10 109 0 (iniL (mL 109) [vr 0]) [] sX0) = true := by decide +kernel

set_option maxRecDepth 100000 in
theorem mk_X8 : chkp 107 10 shX iX (rX (fun i => 19 + i.toNat) (fun _ => 8)) (run 3000 10 109 0 (iniL (mL 109) [vr 0]) [] sX0) = true := by decide +kernel

set_option maxRecDepth 100000 in
theorem mk_X9 : chkp 117 8 shX iX (rX (fun i => 19 + i.toNat) (fun _ => 8)) (run 3000 10 109 0 (iniL (mL 109) [vr 0]) [] sX0) = true := by decide +kernel
