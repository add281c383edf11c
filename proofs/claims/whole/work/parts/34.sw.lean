/-! switches -/
section SW
variable {d m pc n sl : Nat} {sh : Nat → Nat × Nat} {I : Nat → Int → Int} {R : Nat → Int → Option Nat} {L : jL} {S : List jV} {Q : Option jV → jS → Prop}
theorem ev_tsw {df lo hi : Int} {offs : Array Int} {len t : Nat} {x a : Int} (hd : decode (mB m) pc = .ok (.tableswitch df lo hi offs, len)) (hx : x = a) (h : s3 (.tableswitch df lo hi offs) pc len (vi a :: S) = some (t, S)) (kk : Ev d m t L S (ST n sl sh I R) Q) : Ev d m pc L (vi x :: S) (ST n sl sh I R) Q := by
  subst hx
  exact ev_s3 hd rfl rfl rfl h kk
theorem ev_tsd {df lo hi : Int} {offs : Array Int} {len t : Nat} {x : Int} (hd : decode (mB m) pc = .ok (.tableswitch df lo hi offs, len)) (h0 : -2147483648 ≤ x) (h1 : x < 2147483648) (h : x < lo ∨ hi < x) (ht : toPc pc df = some t) (kk : Ev d m t L S (ST n sl sh I R) Q) : Ev d m pc L (vi x :: S) (ST n sl sh I R) Q :=
  ev_s3 hd rfl rfl rfl (by simp [s3, inB, h0, h1, h, ht]) kk
theorem ev_lsw {df : Int} {ps : Array (Int × Int)} {len t : Nat} {x a : Int} (hd : decode (mB m) pc = .ok (.lookupswitch df ps, len)) (hx : x = a) (h : s3 (.lookupswitch df ps) pc len (vi a :: S) = some (t, S)) (kk : Ev d m t L S (ST n sl sh I R) Q) : Ev d m pc L (vi x :: S) (ST n sl sh I R) Q := by
  subst hx
  exact ev_s3 hd rfl rfl rfl h kk
theorem ev_lsd {df : Int} {ps : Array (Int × Int)} {len t : Nat} {x : Int} (hd : decode (mB m) pc = .ok (.lookupswitch df ps, len)) (h0 : -2147483648 ≤ x) (h1 : x < 2147483648) (hp : (ps.toList.zip (ps.toList.drop 1)).all (fun (a, next) => a.1 < next.1) = true) (h : Op.lookupswitch.offset ps.toList df x = df) (ht : toPc pc df = some t) (kk : Ev d m t L S (ST n sl sh I R) Q) : Ev d m pc L (vi x :: S) (ST n sl sh I R) Q := by
  refine ev_s3 (pc' := t) (S' := S) hd rfl rfl rfl ?_ kk
  have hb : inB x = true := inB_iff.mpr ⟨h0, h1⟩
  unfold s3
  dsimp only
  rw [hb, hp, h, ht]
  rfl
end SW
