/-! THE SMALL MACHINE: numbers are Int, cells have numbers; what the real one answers where this one does stands in the next parts. -/
/-- a value: a number, a long, a cell or null -/
abbrev jV : Type := Int ⊕ Int ⊕ Option Nat
abbrev vi (z : Int) : jV := .inl z
abbrev vl (z : Int) : jV := .inr (.inl z)
abbrev vr (k : Nat) : jV := .inr (.inr (some k))
/-- a store: may cells be made, how many there are, how many slots, what each is (class or 50 int[], 51 boolean[], 52 .. arrays of cells; its length), its numbers, its cells -/
abbrev jS : Type := Bool × Nat × Nat × (Nat → Nat × Nat) × (Nat → Int → Int) × (Nat → Int → Option Nat)
abbrev jL : Type := List (Option jV)
def inR (z : Int) : Prop := -2147483648 ≤ z ∧ z < 2147483648
def inB (z : Int) : Bool := decide (-2147483648 ≤ z) && decide (z < 2147483648)
def up {α : Type} (f : Nat → Int → α) (k : Nat) (j : Int) (v : α) : Nat → Int → α := fun a b => if a = k ∧ b = j then v else f a b
def wr (z : Int) : Int := z.bmod 4294967296
def lget (L : jL) (i : Nat) : Option jV := (L[i]?).join
def isL (v : jV) : Bool := match v with
  | .inr (.inl _) => true
  | _ => false
def noL (L : jL) (i : Nat) : Bool := match i with
  | 0 => true
  | j + 1 => match lget L j with
    | some v => !isL v
    | none => true
def lput (L : jL) (i : Nat) (v : jV) : Option jL := if decide (i < L.length) && noL L i then some (L.set i (some v)) else none
def lput2 (L : jL) (i : Nat) (v : jV) : Option jL := if decide (i + 1 < L.length) && noL L i then some ((L.set i (some v)).set (i + 1) none) else none
def szS (S : List jV) : Nat := (S.map fun v => if isL v then 2 else 1).sum
def popN : Nat → List jV → Option (List jV × List jV)
  | 0, S => some ([], S)
  | n + 1, v :: S => (popN n S).map (fun q => (q.1 ++ [v], q.2))
  | _ + 1, [] => none
def iniL (n : Nat) (a : List jV) : jL := let l := a.flatMap (fun v => if isL v then [some v, none] else [some v]); l ++ List.replicate (n - l.length) none
-- the links
def tF (o i : Nat) : Option (Nat × Nat × Nat × Nat) := (tFl.find? (fun e => e.1 == o && e.2.1 == i)).map (fun e => e.2.2.2)
def tK (o i : Nat) : Option Int := (tKl.find? (fun e => e.1 == o && e.2.1 == i)).map (fun e => e.2.2.2)
def tKK (o i : Nat) : Option Int := (tKKl.find? (fun e => e.1 == o && e.2.1 == i)).map (fun e => e.2.2.2)
def tN (o i : Nat) : Option Nat := (tNl.find? (fun e => e.1 == o && e.2.1 == i)).map (fun e => e.2.2.2.1)
def tA (o i : Nat) : Option Nat := (tAl.find? (fun e => e.1 == o && e.2.1 == i)).map (fun e => e.2.2.2.1)
def tO (o i : Nat) : Option Nat := (tOl.find? (fun e => e.1 == o && e.2.1 == i)).map (fun e => e.2.2.2)
def tM (o i : Nat) : Option Nat := (tMl.find? (fun e => e.1 == o && e.2.1 == i)).map (fun e => e.2.2.1)
def tS (o i : Nat) : Option Nat := (tSl.find? (fun e => e.1 == o && e.2.1 == i)).map (fun e => e.2.2.1)
def tI (o i : Nat) : Option Nat := (tIl.find? (fun e => e.1 == o && e.2.1 == i)).map (fun e => e.2.2.1)
def tJ (o i : Nat) : Option Nat := (tJl.find? (fun e => e.1 == o && e.2.1 == i)).map (fun e => e.2.2.1)
def tB (o i : Nat) : Bool := tBl.any (fun e => e.1 == o && e.2.1 == i)
def tP (o i : Nat) : Option Nat := (tPl.find? (fun e => e.1 == o && e.2.1 == i)).map (fun e => e.2.2.1)
/-- how many arguments a virtual call takes beside its receiver -/
def tVn (o i : Nat) : Option Nat := (tVl.find? (fun e => e.1 == o && e.2.1 == i)).map (fun e => e.2.2.1)
def tV (o i c : Nat) : Option Nat := (tVl.find? (fun e => e.1 == o && e.2.1 == i && e.2.2.2.1 == c)).map (fun e => e.2.2.2.2.1)
/-- instanceof, by the object's class (a number of jcl) and the class that is asked for (a number of oN) -/
def tIn (c o : Nat) : Option Bool :=
  match c, o with
  | 5, 6 => some true | 5, 8 => some false | 5, 0 => some false | 5, 10 => some false | 5, 2 => some false
  | 7, 6 => some true | 7, 8 => some true | 7, 0 => some false | 7, 10 => some false | 7, 2 => some false
  | 0, 6 => some true | 0, 8 => some false | 0, 0 => some true | 0, 10 => some false | 0, 2 => some false
  | 9, 6 => some false | 9, 8 => some false | 9, 0 => some false | 9, 10 => some true | 9, 2 => some false
  | 2, 6 => some false | 2, 8 => some false | 2, 0 => some false | 2, 10 => some true | 2, 2 => some true
  | _, _ => none
/-- whether a cell of a class may stand in an array of cells of a tag -/
def tIt (c t : Nat) : Bool := match t with
  | 52 => c == 4
  | 53 => c == 5 || c == 7 || c == 0 || c == 9 || c == 2
  | 54 => c == 1
  | _ => false
-- STEPS that go on to the next instruction and touch no cell
def s1 (o : Nat) (i : Instr) (L : jL) (S : List jV) : Option (jL × List jV) :=
  match i with
  | .iload n => match lget L n with
    | some (.inl z) => some (L, .inl z :: S)
    | _ => none
  | .iload_n n => match lget L n with
    | some (.inl z) => some (L, .inl z :: S)
    | _ => none
  | .lload n => match lget L n with
    | some (.inr (.inl z)) => some (L, .inr (.inl z) :: S)
    | _ => none
  | .lload_n n => match lget L n with
    | some (.inr (.inl z)) => some (L, .inr (.inl z) :: S)
    | _ => none
  | .aload n => match lget L n with
    | some (.inr (.inr (some k))) => some (L, .inr (.inr (some k)) :: S)
    | _ => none
  | .aload_n n => match lget L n with
    | some (.inr (.inr (some k))) => some (L, .inr (.inr (some k)) :: S)
    | _ => none
  | .istore n => match S with
    | .inl z :: S => (lput L n (.inl z)).map (fun L => (L, S))
    | _ => none
  | .istore_n n => match S with
    | .inl z :: S => (lput L n (.inl z)).map (fun L => (L, S))
    | _ => none
  | .astore n => match S with
    | .inr (.inr (some k)) :: S => (lput L n (.inr (.inr (some k)))).map (fun L => (L, S))
    | _ => none
  | .astore_n n => match S with
    | .inr (.inr (some k)) :: S => (lput L n (.inr (.inr (some k)))).map (fun L => (L, S))
    | _ => none
  | .lstore n => match S with
    | .inr (.inl z) :: S => (lput2 L n (.inr (.inl z))).map (fun L => (L, S))
    | _ => none
  | .lstore_n n => match S with
    | .inr (.inl z) :: S => (lput2 L n (.inr (.inl z))).map (fun L => (L, S))
    | _ => none
  | .iinc n d => match lget L n with
    | some (.inl z) => (lput L n (.inl (z + d))).map (fun L => (L, S))
    | _ => none
  | .iconst z => some (L, .inl z :: S)
  | .bipush z => if decide (-128 ≤ z) && decide (z ≤ 127) then some (L, .inl z :: S) else none
  | .sipush z => if decide (-32768 ≤ z) && decide (z ≤ 32767) then some (L, .inl z :: S) else none
  | .ldc n => (tK o n).map (fun z => (L, .inl z :: S))
  | .ldc_w n => (tK o n).map (fun z => (L, .inl z :: S))
  | .ldc2_w n => (tKK o n).map (fun z => (L, .inr (.inl z) :: S))
  | .dup => match S with
    | v :: S => if isL v then none else some (L, v :: v :: S)
    | _ => none
  | .dup2 => match S with
    | v :: w :: S => if isL v || isL w then none else some (L, v :: w :: v :: w :: S)
    | _ => none
  | .pop => match S with
    | v :: S => if isL v then none else some (L, S)
    | _ => none
  | .iadd => match S with
    | .inl y :: .inl x :: S => some (L, .inl (x + y) :: S)
    | _ => none
  | .isub => match S with
    | .inl y :: .inl x :: S => some (L, .inl (x - y) :: S)
    | _ => none
  | .imul => match S with
    | .inl y :: .inl x :: S => some (L, .inl (x * y) :: S)
    | _ => none
  | .ineg => match S with
    | .inl x :: S => some (L, .inl (-x) :: S)
    | _ => none
  | .idiv => match S with
    | .inl y :: .inl x :: S => if decide (0 ≤ x) && decide (x < 2147483648) && decide (0 < y) && decide (y < 2147483648) then some (L, .inl (x / y) :: S) else none
    | _ => none
  | .irem => match S with
    | .inl y :: .inl x :: S => if decide (0 ≤ x) && decide (x < 2147483648) && decide (0 < y) && decide (y < 2147483648) then some (L, .inl (x % y) :: S) else none
    | _ => none
  | .ishl => match S with
    | .inl y :: .inl x :: S => if decide (0 ≤ y) && decide (y < 32) then some (L, .inl (x * 2 ^ y.toNat) :: S) else none
    | _ => none
  | .ishr => match S with
    | .inl y :: .inl x :: S => if decide (0 ≤ y) && decide (y < 32) then some (L, .inl (wr x / 2 ^ y.toNat) :: S) else none
    | _ => none
  | .iand => match S with
    | .inl y :: .inl x :: S => if y = 63 then some (L, .inl (x % 64) :: S) else if y = 1 then some (L, .inl (x % 2) :: S) else none
    | _ => none
  | .ior => match S with
    | .inl y :: .inl x :: S => if decide (0 ≤ x) && decide (x < 2147483648) && decide (0 ≤ y) && decide (y < 2147483648) then some (L, .inl ((x.toNat ||| y.toNat : Nat) : Int) :: S) else none
    | _ => none
  | .i2l => match S with
    | .inl x :: S => if inB x then some (L, .inr (.inl x) :: S) else none
    | _ => none
  | .l2i => match S with
    | .inr (.inl x) :: S => some (L, .inl x :: S)
    | _ => none
  | .i2b => match S with
    | .inl x :: S => some (L, .inl (x.bmod 256) :: S)
    | _ => none
  | .i2s => match S with
    | .inl x :: S => some (L, .inl (x.bmod 65536) :: S)
    | _ => none
  | .lmul => match S with
    | .inr (.inl y) :: .inr (.inl x) :: S => some (L, .inr (.inl (x * y)) :: S)
    | _ => none
  | .lrem => match S with
    | .inr (.inl y) :: .inr (.inl x) :: S => if decide (0 ≤ x) && decide (x < 9223372036854775808) && decide (0 < y) && decide (y < 9223372036854775808) then some (L, .inr (.inl (x % y)) :: S) else none
    | _ => none
  | _ => none
/-- numbers of 0 to 31: how many bits are set -/
def bitC (x : Int) : Int := x % 2 + x / 2 % 2 + x / 4 % 2 + x / 8 % 2 + x / 16 % 2
/-- a range of numbers copied -/
def cpI (f : Nat → Int → Int) (k0 k1 : Nat) (sp dp n : Int) : Nat → Int → Int := fun a b => if a = k1 ∧ dp ≤ b ∧ b < dp + n then f k0 (sp + (b - dp)) else f a b
/-- the number among oN of a class of jcl -/
def cO (c : Nat) : Nat := if c < 4 then c else c + 1
-- STEPS that go on to the next instruction and look at the store ('init': the method is a constructor)
def s2 (o : Nat) (init : Bool) (i : Instr) (S : List jV) (σ : jS) : Option (List jV × jS) :=
  match i with
  | .getfield n => match S, tF o n with
    | .inr (.inr (some k)) :: S, some (c, j, rf, _) =>
      if decide (k < σ.2.1) && decide (σ.2.2.2.1 k = (c, 0)) then
        if rf == 1 then some (.inr (.inr (σ.2.2.2.2.2 k j)) :: S, σ) else some (.inl (σ.2.2.2.2.1 k j) :: S, σ)
      else none
    | _, _ => none
  | .putfield n => match S, tF o n with
    | .inl z :: .inr (.inr (some k)) :: S, some (c, j, rf, fin) =>
      if decide (k < σ.2.1) && decide (σ.2.2.2.1 k = (c, 0)) && (rf == 0) && (fin == 0) then some (S, σ.1, σ.2.1, σ.2.2.1, σ.2.2.2.1, up σ.2.2.2.2.1 k j z, σ.2.2.2.2.2) else none
    | .inr (.inr (some q)) :: .inr (.inr (some k)) :: S, some (c, j, rf, fin) =>
      if decide (k < σ.2.1) && decide (σ.2.2.2.1 k = (c, 0)) && (rf == 1) && (fin == 0 || (init && cO c == o)) then some (S, σ.1, σ.2.1, σ.2.2.1, σ.2.2.2.1, σ.2.2.2.2.1, up σ.2.2.2.2.2 k j (some q)) else none
    | _, _ => none
  | .iaload => match S with
    | .inl x :: .inr (.inr (some k)) :: S => if decide (k < σ.2.1) && ((σ.2.2.2.1 k).1 == 50) && decide (0 ≤ x) && decide (x < (σ.2.2.2.1 k).2) then some (.inl (σ.2.2.2.2.1 k x) :: S, σ) else none
    | _ => none
  | .iastore => match S with
    | .inl z :: .inl x :: .inr (.inr (some k)) :: S => if decide (k < σ.2.1) && ((σ.2.2.2.1 k).1 == 50) && decide (0 ≤ x) && decide (x < (σ.2.2.2.1 k).2) then some (S, σ.1, σ.2.1, σ.2.2.1, σ.2.2.2.1, up σ.2.2.2.2.1 k x z, σ.2.2.2.2.2) else none
    | _ => none
  | .baload => match S with
    | .inl x :: .inr (.inr (some k)) :: S => if decide (k < σ.2.1) && ((σ.2.2.2.1 k).1 == 51) && decide (0 ≤ x) && decide (x < (σ.2.2.2.1 k).2) then some (.inl (σ.2.2.2.2.1 k x) :: S, σ) else none
    | _ => none
  | .bastore => match S with
    | .inl z :: .inl x :: .inr (.inr (some k)) :: S => if decide (k < σ.2.1) && ((σ.2.2.2.1 k).1 == 51) && decide (0 ≤ x) && decide (x < (σ.2.2.2.1 k).2) && (decide (z = 0) || decide (z = 1)) then some (S, σ.1, σ.2.1, σ.2.2.1, σ.2.2.2.1, up σ.2.2.2.2.1 k x z, σ.2.2.2.2.2) else none
    | _ => none
  | .aaload => match S with
    | .inl x :: .inr (.inr (some k)) :: S => if decide (k < σ.2.1) && decide (52 ≤ (σ.2.2.2.1 k).1) && decide ((σ.2.2.2.1 k).1 ≤ 54) && decide (0 ≤ x) && decide (x < (σ.2.2.2.1 k).2) then some (.inr (.inr (σ.2.2.2.2.2 k x)) :: S, σ) else none
    | _ => none
  | .aastore => match S with
    | .inr (.inr (some q)) :: .inl x :: .inr (.inr (some k)) :: S => if decide (k < σ.2.1) && decide (q < σ.2.1) && decide ((σ.2.2.2.1 q).1 < 12) && decide (52 ≤ (σ.2.2.2.1 k).1) && decide ((σ.2.2.2.1 k).1 ≤ 54) && tIt (σ.2.2.2.1 q).1 (σ.2.2.2.1 k).1 && decide (0 ≤ x) && decide (x < (σ.2.2.2.1 k).2) then some (S, σ.1, σ.2.1, σ.2.2.1, σ.2.2.2.1, σ.2.2.2.2.1, up σ.2.2.2.2.2 k x (some q)) else none
    | _ => none
  | .arraylength => match S with
    | .inr (.inr (some k)) :: S => if decide (k < σ.2.1) && decide (50 ≤ (σ.2.2.2.1 k).1) && decide ((σ.2.2.2.1 k).1 ≤ 54) then some (.inl ((σ.2.2.2.1 k).2 : Nat) :: S, σ) else none
    | _ => none
  | .instanceof n => match S, tO o n with
    | .inr (.inr (some k)) :: S, some w => if decide (k < σ.2.1) && decide ((σ.2.2.2.1 k).1 < 12) then (tIn (σ.2.2.2.1 k).1 w).map (fun b => (.inl (if b then 1 else 0) :: S, σ)) else none
    | _, _ => none
  | .new n => (tN o n).bind (fun c => if σ.1 && decide (0 < σ.2.1) then some (.inr (.inr (some σ.2.1)) :: S, true, σ.2.1 + 1, σ.2.2.1 + cF c, (fun a => if a = σ.2.1 then (c, 0) else σ.2.2.2.1 a), (fun a b => if a = σ.2.1 then 0 else σ.2.2.2.2.1 a b), (fun a b => if a = σ.2.1 then none else σ.2.2.2.2.2 a b)) else none)
  | .newarray t => match S with
    | .inl x :: S => if σ.1 && decide (0 < σ.2.1) && decide (0 ≤ x) && decide (x < 100000) && (t == .int || t == .boolean) then some (.inr (.inr (some σ.2.1)) :: S, true, σ.2.1 + 1, σ.2.2.1 + x.toNat, (fun a => if a = σ.2.1 then (if t == .int then 50 else 51, x.toNat) else σ.2.2.2.1 a), (fun a b => if a = σ.2.1 then 0 else σ.2.2.2.2.1 a b), (fun a b => if a = σ.2.1 then none else σ.2.2.2.2.2 a b)) else none
    | _ => none
  | .anewarray n => match S, tA o n with
    | .inl x :: S, some t => if σ.1 && decide (0 < σ.2.1) && decide (0 ≤ x) && decide (x < 100000) then some (.inr (.inr (some σ.2.1)) :: S, true, σ.2.1 + 1, σ.2.2.1 + x.toNat, (fun a => if a = σ.2.1 then (t, x.toNat) else σ.2.2.2.1 a), (fun a b => if a = σ.2.1 then 0 else σ.2.2.2.2.1 a b), (fun a b => if a = σ.2.1 then none else σ.2.2.2.2.2 a b)) else none
    | _, _ => none
  | .invokespecial n => match S with
    | .inr (.inr (some _)) :: S => if tB o n && decide (szS S ≤ 8) then some (S, σ) else none
    | _ => none
  | .invokestatic n => match tM o n with
    | some 0 => match S with
      | .inl n :: .inl dp :: .inr (.inr (some k1)) :: .inl sp :: .inr (.inr (some k0)) :: S =>
        if decide (k0 < σ.2.1) && decide (k1 < σ.2.1) && ((σ.2.2.2.1 k0).1 == 50) && ((σ.2.2.2.1 k1).1 == 50) && decide (0 ≤ sp) && decide (0 ≤ dp) && decide (0 ≤ n) && decide (sp + n ≤ (σ.2.2.2.1 k0).2) && decide (dp + n ≤ (σ.2.2.2.1 k1).2) && decide (szS S ≤ 8) then
          some (S, σ.1, σ.2.1, σ.2.2.1, σ.2.2.2.1, cpI σ.2.2.2.2.1 k0 k1 sp dp n, σ.2.2.2.2.2) else none
      | _ => none
    | some 2 => match S with
      | .inl x :: S => if decide (-2147483648 < x) && decide (x < 2147483648) && decide (szS S ≤ 8) then some (.inl (if 0 ≤ x then x else -x) :: S, σ) else none
      | _ => none
    | some 3 => match S with
      | .inl y :: .inl x :: S => if inB x && inB y && decide (szS S ≤ 8) then some (.inl (if x < y then y else x) :: S, σ) else none
      | _ => none
    | some 4 => match S with
      | .inl y :: .inl x :: S => if inB x && inB y && decide (szS S ≤ 8) then some (.inl (if x < y then x else y) :: S, σ) else none
      | _ => none
    | some 1 => match S with
      | .inl x :: S => if decide (0 ≤ x) && decide (x < 32) && decide (szS S ≤ 8) then some (.inl (bitC x) :: S, σ) else none
      | _ => none
    | _ => none
  | _ => none
def cmpB (c : Jvm.ClassFile.Cond) (x y : Int) : Bool := match c with
  | .eq => decide (x = y)
  | .ne => decide (x ≠ y)
  | .lt => decide (x < y)
  | .ge => decide (y ≤ x)
  | .gt => decide (y < x)
  | .le => decide (x ≤ y)
def toPc (pc : Nat) (off : Int) : Option Nat := if decide (0 ≤ (pc : Int) + off) then some ((pc : Int) + off).toNat else none
-- JUMPS: the next place and the stack
def s3 (i : Instr) (pc len : Nat) (S : List jV) : Option (Nat × List jV) :=
  match i with
  | .goto off => (toPc pc off).map (fun t => (t, S))
  | .ifCond c off => match S with
    | .inl x :: S => if inB x then (toPc pc off).map (fun t => (if cmpB c x 0 then t else pc + len, S)) else none
    | _ => none
  | .if_icmp c off => match S with
    | .inl y :: .inl x :: S => if inB x && inB y then (toPc pc off).map (fun t => (if cmpB c x y then t else pc + len, S)) else none
    | _ => none
  | .tableswitch d lo hi offs => match S with
    | .inl x :: S => if inB x then if x < lo ∨ hi < x then (toPc pc d).map (fun t => (t, S)) else (offs[(x - lo).toNat]?).bind (fun off => (toPc pc off).map (fun t => (t, S))) else none
    | _ => none
  | .lookupswitch d ps => match S with
    | .inl x :: S => if inB x && (ps.toList.zip (ps.toList.drop 1)).all (fun (a, next) => a.1 < next.1) then (toPc pc (Op.lookupswitch.offset ps.toList d x)).map (fun t => (t, S)) else none
    | _ => none
  | _ => none
-- ENDS
def s4 (rt : Option FieldType) (i : Instr) (S : List jV) : Option (Option jV) :=
  match i with
  | .ireturn => match S, rt with
    | [.inl x], some .int => some (some (.inl x))
    | [.inl x], some .boolean => if decide (x = 0) || decide (x = 1) then some (some (.inl x)) else none
    | _, _ => none
  | .areturn => match S, rt with
    | [.inr (.inr (some k))], some (.object _) => some (some (.inr (.inr (some k))))
    | _, _ => none
  | .return_ => match S, rt with
    | [], none => some none
    | _, _ => none
  | _ => none
-- CALLS: the method, its arguments, what stays on the stack
def s5 (o : Nat) (i : Instr) (S : List jV) (σ : jS) : Option (Nat × List jV × List jV) :=
  match i with
  | .invokestatic n => (tS o n).bind (fun m => (popN (mP m) S).bind (fun q => if szS q.2 ≤ 8 then some (m, q.1, q.2) else none))
  | .invokespecial n => match (tI o n).orElse (fun _ => (tJ o n).orElse (fun _ => tP o n)) with
    | some m => (popN (mP m) S).bind (fun q => match q.2 with
      | .inr (.inr (some k)) :: r => if decide (szS r ≤ 8) && decide (k < σ.2.1) && decide ((σ.2.2.2.1 k).1 < 12) then some (m, .inr (.inr (some k)) :: q.1, r) else none
      | _ => none)
    | none => none
  | .invokevirtual n => (tVn o n).bind (fun np => (popN np S).bind (fun q => match q.2 with
      | .inr (.inr (some k)) :: r => if decide (szS r ≤ 8) && decide (k < σ.2.1) && decide ((σ.2.2.2.1 k).2 = 0) then (tV o n (σ.2.2.2.1 k).1).map (fun m => (m, .inr (.inr (some k)) :: q.1, r)) else none
      | _ => none))
  | _ => none
/-- the length of an instruction, where it is the same everywhere -/
def ilen (i : Instr) : Nat := match i with
  | .iload _ | .lload _ | .aload _ | .istore _ | .astore _ | .lstore _ | .bipush _ | .ldc _ | .newarray _ => 2
  | .iinc _ _ | .sipush _ | .ldc_w _ | .ldc2_w _ | .getfield _ | .putfield _ | .instanceof _ | .new _ | .anewarray _ | .invokespecial _ | .invokestatic _ | .invokevirtual _ | .goto _ | .ifCond _ _ | .if_icmp _ _ => 3
  | _ => 1
def lenOk (i : Instr) (len : Nat) : Bool := match i with
  | .tableswitch _ _ _ _ => true
  | .lookupswitch _ _ => true
  | _ => len == ilen i
def isInit (m : Nat) : Bool := (mY m).name == "<init>"
/-- the run of a method from a place on: fuel, how deep calls may go -/
def run : Nat → Nat → Nat → Nat → jL → List jV → jS → Option (Option jV × jS)
  | 0, _, _, _, _, _, _ => none
  | f + 1, d, m, pc, L, S, σ =>
    match decode (mB m) pc with
    | .ok (i, len) => if lenOk i len then
      match s1 (mO m) i L S with
      | some (L, S) => run f d m (pc + len) L S σ
      | none => match s2 (mO m) (isInit m) i S σ with
        | some (S, σ) => run f d m (pc + len) L S σ
        | none => match s3 i pc len S with
          | some (pc, S) => run f d m pc L S σ
          | none => match s4 (mR m) i S with
            | some r => some (r, σ)
            | none => match s5 (mO m) i S σ with
              | some (m', a, S) => match d with
                | 0 => none
                | d + 1 => match (if szS a ≤ mL m' then run f d m' 0 (iniL (mL m') a) [] σ else none) with
                  | some (r, σ) => run f (d + 1) m (pc + 3) L (r.toList ++ S) σ
                  | none => none
              | none => none
      else none
    | _ => none
theorem run_more : ∀ (f d m pc : Nat) (L : jL) (S : List jV) (σ : jS) (r : Option jV × jS), run f d m pc L S σ = some r → run (f + 1) d m pc L S σ = some r := by
  intro f
  induction f with
  | zero => intro d m pc L S σ r h; simp [run] at h
  | succ f ih =>
    intro d m pc L S σ r h
    unfold run at h ⊢
    split at h <;> try simp at h
    rename_i i len hd
    obtain ⟨hlen, h⟩ := h
    rw [if_pos hlen]
    cases h1 : s1 (mO m) i L S with
    | some q => rw [h1] at h; exact ih _ _ _ _ _ _ _ h
    | none =>
      rw [h1] at h
      dsimp only at h ⊢
      cases h2 : s2 (mO m) (isInit m) i S σ with
      | some q => rw [h2] at h; exact ih _ _ _ _ _ _ _ h
      | none =>
        rw [h2] at h
        dsimp only at h ⊢
        cases h3 : s3 i pc len S with
        | some q => rw [h3] at h; exact ih _ _ _ _ _ _ _ h
        | none =>
          rw [h3] at h
          dsimp only at h ⊢
          cases h4 : s4 (mR m) i S with
          | some q => rw [h4] at h; exact h
          | none =>
            rw [h4] at h
            dsimp only at h ⊢
            cases h5 : s5 (mO m) i S σ with
            | none => rw [h5] at h; cases h
            | some q =>
              obtain ⟨m', a, S'⟩ := q
              rw [h5] at h
              dsimp only at h ⊢
              cases d with
              | zero => cases h
              | succ d =>
                dsimp only at h ⊢
                by_cases hz : szS a ≤ mL m'
                · rw [if_pos hz] at h ⊢
                  cases h6 : run f d m' 0 (iniL (mL m') a) [] σ with
                  | none => rw [h6] at h; cases h
                  | some q =>
                    rw [h6] at h
                    rw [ih _ _ _ _ _ _ _ h6]
                    exact ih _ _ _ _ _ _ _ h
                · rw [if_neg hz] at h; cases h
theorem run_le {f g d m pc : Nat} {L : jL} {S : List jV} {σ : jS} {r : Option jV × jS} (h : f ≤ g) (hr : run f d m pc L S σ = some r) : run g d m pc L S σ = some r := by
  induction h with
  | refl => exact hr
  | step _ ih => exact run_more _ _ _ _ _ _ _ _ ih
