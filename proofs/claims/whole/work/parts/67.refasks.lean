/-- two chairs beside one another have changed places -/
def sw1 (w : Int → Int) (c i : Int) : Int → Int := fun b => if 3 + 5 * c ≤ b ∧ b < 3 + 5 * c + i then w (b + 5) else if 3 + 5 * c + 5 ≤ b ∧ b < 3 + 5 * c + 5 + i then w (b - 5) else w b
def swp (c a : Int) : Int := if a = c + 1 then c + 2 else if a = c + 2 then c + 1 else a
def sw2 (u : Int → Int) (c i : Int) : Int → Int := fun b => if 28 ≤ b ∧ b < 28 + 4 * i ∧ (b - 28) % 4 = 2 then swp c (u b) else u b
def movW (w : Int → Int) (c : Int) : Int → Int := sw2 (sw1 w c 5) c (w 2)
theorem sw1_a {w : Int → Int} {c i : Int} (i5 : i < 5) : sw1 w c i (3 + 5 * c + i) = w (3 + 5 * c + i) := by
  unfold sw1
  rw [if_neg (by omega), if_neg (by omega)]
theorem sw1_b {w : Int → Int} {c i : Int} (i0 : 0 ≤ i) (i5 : i < 5) : sw1 w c i (3 + 5 * c + 5 + i) = w (3 + 5 * c + 5 + i) := by
  unfold sw1
  rw [if_neg (by omega), if_neg (by omega)]
theorem sw1_s {w : Int → Int} {c i b : Int} (h1 : b ≠ 3 + 5 * c + i) (h2 : b ≠ 3 + 5 * c + 5 + i) : sw1 w c i b = sw1 w c (i + 1) b := by
  unfold sw1
  by_cases p1 : 3 + 5 * c ≤ b ∧ b < 3 + 5 * c + i
  · rw [if_pos p1, if_pos (show 3 + 5 * c ≤ b ∧ b < 3 + 5 * c + (i + 1) by omega)]
  · rw [if_neg p1, if_neg (show ¬ (3 + 5 * c ≤ b ∧ b < 3 + 5 * c + (i + 1)) by omega)]
    by_cases p2 : 3 + 5 * c + 5 ≤ b ∧ b < 3 + 5 * c + 5 + i
    · rw [if_pos p2, if_pos (show 3 + 5 * c + 5 ≤ b ∧ b < 3 + 5 * c + 5 + (i + 1) by omega)]
    · rw [if_neg p2, if_neg (show ¬ (3 + 5 * c + 5 ≤ b ∧ b < 3 + 5 * c + 5 + (i + 1)) by omega)]
theorem sw1_lo {w : Int → Int} {c i b : Int} (c0 : 0 ≤ c) (hb : b < 3) : sw1 w c i b = w b := by
  unfold sw1
  rw [if_neg (by omega), if_neg (by omega)]
theorem sw1_hi {w : Int → Int} {c b : Int} (c5 : c < 4) (hb : 28 ≤ b) : sw1 w c 5 b = w b := by
  unfold sw1
  rw [if_neg (by omega), if_neg (by omega)]
theorem sw2_lo {u : Int → Int} {c i b : Int} (hb : b < 28) : sw2 u c i b = u b := by
  unfold sw2
  rw [if_neg (by omega)]
theorem sw2_at {u : Int → Int} {c i : Int} : sw2 u c i (28 + 4 * i + 2) = u (28 + 4 * i + 2) := by
  unfold sw2
  rw [if_neg (by omega)]
theorem sw2_s {u : Int → Int} {c i b : Int} (h : b ≠ 28 + 4 * i + 2) : sw2 u c i b = sw2 u c (i + 1) b := by
  unfold sw2
  by_cases p1 : 28 ≤ b ∧ b < 28 + 4 * i ∧ (b - 28) % 4 = 2
  · rw [if_pos p1, if_pos (by omega)]
  · rw [if_neg p1, if_neg (by omega)]
theorem swp_rng {c a : Int} (h0 : -2147483648 ≤ a) (h1 : a < 2147483648) (c0 : 0 ≤ c) (c5 : c < 5) : -2147483648 ≤ swp c a ∧ swp c a < 2147483648 := by
  unfold swp
  repeat' split
  all_goals omega
/-- what the trace holds -/
def TRo (n : Int) (f : Int → Int) (l : List Int) : Prop := n = (l.length : Int) ∧ ∀ i : Nat, i < l.length → l[i]? = some (f (i : Int))
theorem tr_push {n n' b : Int} {f f' : Int → Int} {l : List Int} (h : TRo n f l) (hn : n' = n + 1) (he : f' n = b) (ho : ∀ j, j ≠ n → f' j = f j) : TRo n' f' (l ++ [b]) := by
  obtain ⟨hl, h2⟩ := h
  have e : (l ++ [b]).length = l.length + 1 := List.length_append
  refine ⟨by rw [e]; omega, fun i hi => ?_⟩
  by_cases q : i = l.length
  · rw [q, List.getElem?_append_right (Nat.le_refl _), Nat.sub_self, ← hl, he]
    rfl
  · rw [List.getElem?_append_left (by omega), ho _ (by omega)]
    exact h2 i (by omega)
/-- bodies have begun: what the trace holds then -/
def ASM (J J' : Nat → Int → Int) (l : List Int) : Prop := RZ J' ∧ TRo (J' 0 23) (J' 14) l ∧ (∀ b, b ≠ 23 → J' 0 b = J 0 b) ∧ ∀ a, (a ≠ 0 ∧ a ≠ 14) → J' a = J a
def mrkP (k : Int) : List Int := if k = 1 then [21, 20] else if k = 2 then [24, 21, 20] else [22, 21, 20]
def sizT (k : Int) : List Int := if k = 5 then [14, 13, 10] else [13, 10]
def sizL (k : Int) : List Int := if k ≤ 3 then (if k = 2 then [12, 11, 10] else [11, 10]) ++ mrkP k else sizT k
def marL (k : Int) : List Int := if k ≤ 3 then mrkP k else [23, 20] ++ sizT k
def mrkV (k m s : Int) : Int := if k = 2 then 2 * (m + s) else if k = 3 then m + s - 1000 else m + s
def sizU (k t : Int) : Int := if k = 5 then 2 * (t - 100) else t - 100
def sizV (k m s t : Int) : Int := if k ≤ 3 then (if k = 2 then -(t + mrkV k m s) else t + mrkV k m s) else sizU k t
def marV (k m s t : Int) : Int := if k ≤ 3 then mrkV k m s else m - sizU k t

set_option maxHeartbeats 1000000 in
theorem m_mov2 {d : Nat} {K : Nat → Int → Int} {Q : Option jV → jS → Prop} {w : Int → Int} {c : Int} (hw : OKW w) (c0 : 0 ≤ c) (c1 : c + 1 < w 1) (hd : 2 ≤ d) (hok : OKW (movW w c)) (hQ : ∀ J', RZ J' → J' 6 = movW w c → (∀ a, a ≠ 6 → J' a = K a) → Q (some (vi (peW (movW w c)))) (SM J')) : ∀ (n : Nat) (J : Nat → Int → Int) (i : Nat) (x : Option jV), RZ J → w 2 - i < n → (i : Int) ≤ w 2 → J 6 = sw2 (sw1 w c 5) c (i : Int) → (∀ a, a ≠ 6 → J a = K a) → Ev d 195 94 [some (vr 0), some (vi c), some (vi (i : Int)), x] [] (SM J) Q := by
  intro n
  induction n with
  | zero =>
    intro J i x hJ hi hi2 hv6 hF0
    have w2 := hw.2.2.1
    exfalso; omega
  | succ n ih =>
    intro J i x hJ hi hi2 hv6 hF0
    have w1 := hw.2.1
    have w2 := hw.2.2.1
    have l2 : sw2 (sw1 w c 5) c (i : Int) 2 = w 2 := (sw2_lo (by decide)).trans (sw1_lo c0 (by decide))
    refine ev_s1 (L' := [some (vr 0), some (vi c), some (vi (i : Int)), x]) (S' := [vi (i : Int)]) k195_94 rfl rfl ?_
    refine ev_s1 (L' := [some (vr 0), some (vi c), some (vi (i : Int)), x]) (S' := [vr 0, vi (i : Int)]) k195_95 rfl rfl ?_
    refine ev_getR k195_96 (by decide) (rfl) (y_0_13) ?_
    refine ev_s1 (L' := [some (vr 0), some (vi c), some (vi (i : Int)), x]) (S' := [vi 2, vr 6, vi (i : Int)]) k195_99 rfl rfl ?_
    refine ev_iald k195_100 (by decide) (rfl) (by omega) (by omega) ?_
    have rr1 := hJ.1 6 2
    rw [hv6]
    rw [hv6] at rr1
    refine ev_c_ge (t := 164) k195_101 rfl (by omega) (by omega) (by omega) (by omega) (fun h2 => ?_) (fun h2 => ?_)
    · have hok2 : OKW (sw2 (sw1 w c 5) c (i : Int)) := by rw [show (i : Int) = w 2 by omega]; exact hok
      refine ev_s1 (L' := [some (vr 0), some (vi c), some (vi (i : Int)), x]) (S' := [vr 0]) k195_164 rfl rfl ?_
      refine ev_getR k195_165 (by decide) (rfl) (y_0_13) ?_
      refine ev_static (a := [vr 6]) (S' := []) k195_168 rfl (Nat.le_of_ble_eq_true rfl) (by omega) ?_
      refine m_peace hJ (k := 6) (by decide) (by rw [hv6]; exact hok2) (by omega) (?_)
      rw [hv6]
      have pr168 := pe_rng hok2
      show Ev d 195 171 [some (vr 0), some (vi c), some (vi (i : Int)), x] [vi (peW (sw2 (sw1 w c 5) c (i : Int)))] (SM J) Q
      refine ev_ireturn k195_171 ?_
      have em : sw2 (sw1 w c 5) c (i : Int) = movW w c := by unfold movW; rw [show (i : Int) = w 2 by omega]
      rw [em]
      exact hQ _ hJ (hv6.trans em) hF0
    · refine ev_s1 (L' := [some (vr 0), some (vi c), some (vi (i : Int)), x]) (S' := [vr 0]) k195_104 rfl rfl ?_
      refine ev_getR k195_105 (by decide) (rfl) (y_0_13) ?_
      refine ev_s1 (L' := [some (vr 0), some (vi c), some (vi (i : Int)), x]) (S' := [vi 28, vr 6]) k195_108 rfl rfl ?_
      refine ev_s1 (L' := [some (vr 0), some (vi c), some (vi (i : Int)), x]) (S' := [vi 4, vi 28, vr 6]) k195_110 rfl rfl ?_
      refine ev_s1 (L' := [some (vr 0), some (vi c), some (vi (i : Int)), x]) (S' := [vi (i : Int), vi 4, vi 28, vr 6]) k195_111 rfl rfl ?_
      refine ev_s1 (L' := [some (vr 0), some (vi c), some (vi (i : Int)), x]) (S' := [vi (4 * (i : Int)), vi 28, vr 6]) k195_112 rfl rfl ?_
      refine ev_s1 (L' := [some (vr 0), some (vi c), some (vi (i : Int)), x]) (S' := [vi (28 + (4 * (i : Int))), vr 6]) k195_113 rfl rfl ?_
      refine ev_s1 (L' := [some (vr 0), some (vi c), some (vi (i : Int)), x]) (S' := [vi 2, vi (28 + (4 * (i : Int))), vr 6]) k195_114 rfl rfl ?_
      refine ev_s1 (L' := [some (vr 0), some (vi c), some (vi (i : Int)), x]) (S' := [vi ((28 + (4 * (i : Int))) + 2), vr 6]) k195_115 rfl rfl ?_
      refine ev_iald k195_116 (by decide) (rfl) (by omega) (by omega) ?_
      have rr3 := hJ.1 6 ((28 + (4 * (i : Int))) + 2)
      rw [hv6]
      rw [hv6] at rr3
      refine ev_s1 (L' := [some (vr 0), some (vi c), some (vi (i : Int)), some (vi ((sw2 (sw1 w c 5) c (i : Int)) ((28 + (4 * (i : Int))) + 2)))]) (S' := []) k195_117 rfl rfl ?_
      refine ev_s1 (L' := [some (vr 0), some (vi c), some (vi (i : Int)), some (vi ((sw2 (sw1 w c 5) c (i : Int)) ((28 + (4 * (i : Int))) + 2)))]) (S' := [vr 0]) k195_118 rfl rfl ?_
      refine ev_getR k195_119 (by decide) (rfl) (y_0_13) ?_
      refine ev_s1 (L' := [some (vr 0), some (vi c), some (vi (i : Int)), some (vi ((sw2 (sw1 w c 5) c (i : Int)) ((28 + (4 * (i : Int))) + 2)))]) (S' := [vi 28, vr 6]) k195_122 rfl rfl ?_
      refine ev_s1 (L' := [some (vr 0), some (vi c), some (vi (i : Int)), some (vi ((sw2 (sw1 w c 5) c (i : Int)) ((28 + (4 * (i : Int))) + 2)))]) (S' := [vi 4, vi 28, vr 6]) k195_124 rfl rfl ?_
      refine ev_s1 (L' := [some (vr 0), some (vi c), some (vi (i : Int)), some (vi ((sw2 (sw1 w c 5) c (i : Int)) ((28 + (4 * (i : Int))) + 2)))]) (S' := [vi (i : Int), vi 4, vi 28, vr 6]) k195_125 rfl rfl ?_
      refine ev_s1 (L' := [some (vr 0), some (vi c), some (vi (i : Int)), some (vi ((sw2 (sw1 w c 5) c (i : Int)) ((28 + (4 * (i : Int))) + 2)))]) (S' := [vi (4 * (i : Int)), vi 28, vr 6]) k195_126 rfl rfl ?_
      refine ev_s1 (L' := [some (vr 0), some (vi c), some (vi (i : Int)), some (vi ((sw2 (sw1 w c 5) c (i : Int)) ((28 + (4 * (i : Int))) + 2)))]) (S' := [vi (28 + (4 * (i : Int))), vr 6]) k195_127 rfl rfl ?_
      refine ev_s1 (L' := [some (vr 0), some (vi c), some (vi (i : Int)), some (vi ((sw2 (sw1 w c 5) c (i : Int)) ((28 + (4 * (i : Int))) + 2)))]) (S' := [vi 2, vi (28 + (4 * (i : Int))), vr 6]) k195_128 rfl rfl ?_
      refine ev_s1 (L' := [some (vr 0), some (vi c), some (vi (i : Int)), some (vi ((sw2 (sw1 w c 5) c (i : Int)) ((28 + (4 * (i : Int))) + 2)))]) (S' := [vi ((28 + (4 * (i : Int))) + 2), vr 6]) k195_129 rfl rfl ?_
      refine ev_s1 (L' := [some (vr 0), some (vi c), some (vi (i : Int)), some (vi ((sw2 (sw1 w c 5) c (i : Int)) ((28 + (4 * (i : Int))) + 2)))]) (S' := [vi ((sw2 (sw1 w c 5) c (i : Int)) ((28 + (4 * (i : Int))) + 2)), vi ((28 + (4 * (i : Int))) + 2), vr 6]) k195_130 rfl rfl ?_
      refine ev_s1 (L' := [some (vr 0), some (vi c), some (vi (i : Int)), some (vi ((sw2 (sw1 w c 5) c (i : Int)) ((28 + (4 * (i : Int))) + 2)))]) (S' := [vi c, vi ((sw2 (sw1 w c 5) c (i : Int)) ((28 + (4 * (i : Int))) + 2)), vi ((28 + (4 * (i : Int))) + 2), vr 6]) k195_131 rfl rfl ?_
      refine ev_s1 (L' := [some (vr 0), some (vi c), some (vi (i : Int)), some (vi ((sw2 (sw1 w c 5) c (i : Int)) ((28 + (4 * (i : Int))) + 2)))]) (S' := [vi 1, vi c, vi ((sw2 (sw1 w c 5) c (i : Int)) ((28 + (4 * (i : Int))) + 2)), vi ((28 + (4 * (i : Int))) + 2), vr 6]) k195_132 rfl rfl ?_
      refine ev_s1 (L' := [some (vr 0), some (vi c), some (vi (i : Int)), some (vi ((sw2 (sw1 w c 5) c (i : Int)) ((28 + (4 * (i : Int))) + 2)))]) (S' := [vi (c + 1), vi ((sw2 (sw1 w c 5) c (i : Int)) ((28 + (4 * (i : Int))) + 2)), vi ((28 + (4 * (i : Int))) + 2), vr 6]) k195_133 rfl rfl ?_
      have kj134 : ∀ sw : Int, sw = (swp c ((sw2 (sw1 w c 5) c (i : Int)) ((28 + (4 * (i : Int))) + 2))) → Ev d 195 157 [some (vr 0), some (vi c), some (vi (i : Int)), some (vi ((sw2 (sw1 w c 5) c (i : Int)) ((28 + (4 * (i : Int))) + 2)))] [vi sw, vi ((28 + (4 * (i : Int))) + 2), vr 6] (SM J) Q := by
        intro sw hsw
        have swr := swp_rng (c := c) (a := (sw2 (sw1 w c 5) c (i : Int)) ((28 + (4 * (i : Int))) + 2)) (by omega) (by omega) (by omega) (by omega)
        rw [← hsw] at swr
        refine ev_iast k195_157 (by decide) (rfl) (by omega) (by omega) ?_
        show Ev d 195 158 [some (vr 0), some (vi c), some (vi (i : Int)), some (vi ((sw2 (sw1 w c 5) c (i : Int)) ((28 + (4 * (i : Int))) + 2)))] [] (SM (up J 6 ((28 + (4 * (i : Int))) + 2) sw)) Q
        have hJ4 := rz_up hJ (k := 6) (j := (28 + (4 * (i : Int))) + 2) (z := sw) (by omega) (by omega) (by omega)
        have g4 : ∀ aa, aa ≠ 6 → up J 6 ((28 + (4 * (i : Int))) + 2) sw aa = J aa := fun aa h => upf h
        have q4 : ∀ bb, bb ≠ (28 + (4 * (i : Int))) + 2 → up J 6 ((28 + (4 * (i : Int))) + 2) sw 6 bb = J 6 bb := fun bb h => upN (Or.inr h)
        have e4 : up J 6 ((28 + (4 * (i : Int))) + 2) sw 6 ((28 + (4 * (i : Int))) + 2) = sw := upE rfl rfl
        generalize up J 6 ((28 + (4 * (i : Int))) + 2) sw = J4 at hJ4 g4 q4 e4 ⊢
        refine ev_s1 (L' := [some (vr 0), some (vi c), some (vi ((i : Int) + 1)), some (vi ((sw2 (sw1 w c 5) c (i : Int)) ((28 + (4 * (i : Int))) + 2)))]) (S' := []) k195_158 rfl rfl ?_
        refine ev_goto (t := 94) k195_161 rfl ?_
        refine ih J4 (i + 1) _ hJ4 (by omega) (by omega) ?_ (fun a a6 => ((g4 a (by assumption)).trans (hF0 a a6)))
        funext b
        by_cases q : b = 28 + 4 * (i : Int) + 2
        · rw [q, e4, hsw, sw2_at]
          unfold sw2
          rw [if_pos (by omega)]
        · rw [q4 b q, hv6, sw2_s q]
          rfl
      refine ev_c_ne (t := 143) k195_134 rfl (by omega) (by omega) (by omega) (by omega) (fun h5 => ?_) (fun h5 => ?_)
      · refine ev_s1 (L' := [some (vr 0), some (vi c), some (vi (i : Int)), some (vi ((sw2 (sw1 w c 5) c (i : Int)) ((28 + (4 * (i : Int))) + 2)))]) (S' := [vi ((sw2 (sw1 w c 5) c (i : Int)) ((28 + (4 * (i : Int))) + 2)), vi ((28 + (4 * (i : Int))) + 2), vr 6]) k195_143 rfl rfl ?_
        refine ev_s1 (L' := [some (vr 0), some (vi c), some (vi (i : Int)), some (vi ((sw2 (sw1 w c 5) c (i : Int)) ((28 + (4 * (i : Int))) + 2)))]) (S' := [vi c, vi ((sw2 (sw1 w c 5) c (i : Int)) ((28 + (4 * (i : Int))) + 2)), vi ((28 + (4 * (i : Int))) + 2), vr 6]) k195_144 rfl rfl ?_
        refine ev_s1 (L' := [some (vr 0), some (vi c), some (vi (i : Int)), some (vi ((sw2 (sw1 w c 5) c (i : Int)) ((28 + (4 * (i : Int))) + 2)))]) (S' := [vi 2, vi c, vi ((sw2 (sw1 w c 5) c (i : Int)) ((28 + (4 * (i : Int))) + 2)), vi ((28 + (4 * (i : Int))) + 2), vr 6]) k195_145 rfl rfl ?_
        refine ev_s1 (L' := [some (vr 0), some (vi c), some (vi (i : Int)), some (vi ((sw2 (sw1 w c 5) c (i : Int)) ((28 + (4 * (i : Int))) + 2)))]) (S' := [vi (c + 2), vi ((sw2 (sw1 w c 5) c (i : Int)) ((28 + (4 * (i : Int))) + 2)), vi ((28 + (4 * (i : Int))) + 2), vr 6]) k195_146 rfl rfl ?_
        refine ev_c_ne (t := 156) k195_147 rfl (by omega) (by omega) (by omega) (by omega) (fun h6 => ?_) (fun h6 => ?_)
        · refine ev_s1 (L' := [some (vr 0), some (vi c), some (vi (i : Int)), some (vi ((sw2 (sw1 w c 5) c (i : Int)) ((28 + (4 * (i : Int))) + 2)))]) (S' := [vi ((sw2 (sw1 w c 5) c (i : Int)) ((28 + (4 * (i : Int))) + 2)), vi ((28 + (4 * (i : Int))) + 2), vr 6]) k195_156 rfl rfl ?_
          exact kj134 _ (by unfold swp; first | rw [if_pos (by omega)] | rw [if_neg (by omega), if_pos (by omega)] | rw [if_neg (by omega), if_neg (by omega)])
        · refine ev_s1 (L' := [some (vr 0), some (vi c), some (vi (i : Int)), some (vi ((sw2 (sw1 w c 5) c (i : Int)) ((28 + (4 * (i : Int))) + 2)))]) (S' := [vi c, vi ((28 + (4 * (i : Int))) + 2), vr 6]) k195_150 rfl rfl ?_
          refine ev_s1 (L' := [some (vr 0), some (vi c), some (vi (i : Int)), some (vi ((sw2 (sw1 w c 5) c (i : Int)) ((28 + (4 * (i : Int))) + 2)))]) (S' := [vi 1, vi c, vi ((28 + (4 * (i : Int))) + 2), vr 6]) k195_151 rfl rfl ?_
          refine ev_s1 (L' := [some (vr 0), some (vi c), some (vi (i : Int)), some (vi ((sw2 (sw1 w c 5) c (i : Int)) ((28 + (4 * (i : Int))) + 2)))]) (S' := [vi (c + 1), vi ((28 + (4 * (i : Int))) + 2), vr 6]) k195_152 rfl rfl ?_
          refine ev_goto (t := 157) k195_153 rfl ?_
          exact kj134 _ (by unfold swp; first | rw [if_pos (by omega)] | rw [if_neg (by omega), if_pos (by omega)] | rw [if_neg (by omega), if_neg (by omega)])
      · refine ev_s1 (L' := [some (vr 0), some (vi c), some (vi (i : Int)), some (vi ((sw2 (sw1 w c 5) c (i : Int)) ((28 + (4 * (i : Int))) + 2)))]) (S' := [vi c, vi ((28 + (4 * (i : Int))) + 2), vr 6]) k195_137 rfl rfl ?_
        refine ev_s1 (L' := [some (vr 0), some (vi c), some (vi (i : Int)), some (vi ((sw2 (sw1 w c 5) c (i : Int)) ((28 + (4 * (i : Int))) + 2)))]) (S' := [vi 2, vi c, vi ((28 + (4 * (i : Int))) + 2), vr 6]) k195_138 rfl rfl ?_
        refine ev_s1 (L' := [some (vr 0), some (vi c), some (vi (i : Int)), some (vi ((sw2 (sw1 w c 5) c (i : Int)) ((28 + (4 * (i : Int))) + 2)))]) (S' := [vi (c + 2), vi ((28 + (4 * (i : Int))) + 2), vr 6]) k195_139 rfl rfl ?_
        refine ev_goto (t := 157) k195_140 rfl ?_
        exact kj134 _ (by unfold swp; first | rw [if_pos (by omega)] | rw [if_neg (by omega), if_pos (by omega)] | rw [if_neg (by omega), if_neg (by omega)])

set_option maxHeartbeats 1000000 in
theorem m_mov1 {d : Nat} {K : Nat → Int → Int} {Q : Option jV → jS → Prop} {w : Int → Int} {c : Int} (hw : OKW w) (c0 : 0 ≤ c) (c1 : c + 1 < w 1) (hd : 2 ≤ d) (hok : OKW (movW w c)) (hQ : ∀ J', RZ J' → J' 6 = movW w c → (∀ a, a ≠ 6 → J' a = K a) → Q (some (vi (peW (movW w c)))) (SM J')) : ∀ (n : Nat) (J : Nat → Int → Int) (i : Nat) (x : Option jV), RZ J → 5 - (i : Int) < n → i ≤ 5 → J 6 = sw1 w c (i : Int) → (∀ a, a ≠ 6 → J a = K a) → Ev d 195 27 [some (vr 0), some (vi c), some (vi (i : Int)), x] [] (SM J) Q := by
  intro n
  induction n with
  | zero =>
    intro J i x hJ hi hi2 hv6 hF0
    exfalso; omega
  | succ n ih =>
    intro J i x hJ hi hi2 hv6 hF0
    have w1 := hw.2.1
    have w2 := hw.2.2.1
    refine ev_s1 (L' := [some (vr 0), some (vi c), some (vi (i : Int)), x]) (S' := [vi (i : Int)]) k195_27 rfl rfl ?_
    refine ev_s1 (L' := [some (vr 0), some (vi c), some (vi (i : Int)), x]) (S' := [vi 5, vi (i : Int)]) k195_28 rfl rfl ?_
    refine ev_c_ge (t := 92) k195_29 rfl (by omega) (by omega) (by omega) (by omega) (fun h1 => ?_) (fun h1 => ?_)
    · refine ev_s1 (L' := [some (vr 0), some (vi c), some (vi (i : Int)), x]) (S' := [vi 0]) k195_92 rfl rfl ?_
      refine ev_s1 (L' := [some (vr 0), some (vi c), some (vi 0), x]) (S' := []) k195_93 rfl rfl ?_
      exact m_mov2 (K := K) hw c0 c1 hd hok hQ 6 J 0 _ hJ (by omega) (by omega) (by rw [hv6, show (i : Int) = 5 by omega]; funext b; unfold sw2; rw [if_neg (by omega)]) hF0
    · refine ev_s1 (L' := [some (vr 0), some (vi c), some (vi (i : Int)), x]) (S' := [vr 0]) k195_32 rfl rfl ?_
      refine ev_getR k195_33 (by decide) (rfl) (y_0_13) ?_
      refine ev_s1 (L' := [some (vr 0), some (vi c), some (vi (i : Int)), x]) (S' := [vi 3, vr 6]) k195_36 rfl rfl ?_
      refine ev_s1 (L' := [some (vr 0), some (vi c), some (vi (i : Int)), x]) (S' := [vi 5, vi 3, vr 6]) k195_37 rfl rfl ?_
      refine ev_s1 (L' := [some (vr 0), some (vi c), some (vi (i : Int)), x]) (S' := [vi c, vi 5, vi 3, vr 6]) k195_38 rfl rfl ?_
      refine ev_s1 (L' := [some (vr 0), some (vi c), some (vi (i : Int)), x]) (S' := [vi (5 * c), vi 3, vr 6]) k195_39 rfl rfl ?_
      refine ev_s1 (L' := [some (vr 0), some (vi c), some (vi (i : Int)), x]) (S' := [vi (3 + (5 * c)), vr 6]) k195_40 rfl rfl ?_
      refine ev_s1 (L' := [some (vr 0), some (vi c), some (vi (i : Int)), x]) (S' := [vi (i : Int), vi (3 + (5 * c)), vr 6]) k195_41 rfl rfl ?_
      refine ev_s1 (L' := [some (vr 0), some (vi c), some (vi (i : Int)), x]) (S' := [vi ((3 + (5 * c)) + (i : Int)), vr 6]) k195_42 rfl rfl ?_
      refine ev_iald k195_43 (by decide) (rfl) (by omega) (by omega) ?_
      have rr2 := hJ.1 6 ((3 + (5 * c)) + (i : Int))
      rw [hv6]
      rw [hv6] at rr2
      refine ev_s1 (L' := [some (vr 0), some (vi c), some (vi (i : Int)), some (vi ((sw1 w c (i : Int)) ((3 + (5 * c)) + (i : Int))))]) (S' := []) k195_44 rfl rfl ?_
      refine ev_s1 (L' := [some (vr 0), some (vi c), some (vi (i : Int)), some (vi ((sw1 w c (i : Int)) ((3 + (5 * c)) + (i : Int))))]) (S' := [vr 0]) k195_45 rfl rfl ?_
      refine ev_getR k195_46 (by decide) (rfl) (y_0_13) ?_
      refine ev_s1 (L' := [some (vr 0), some (vi c), some (vi (i : Int)), some (vi ((sw1 w c (i : Int)) ((3 + (5 * c)) + (i : Int))))]) (S' := [vi 3, vr 6]) k195_49 rfl rfl ?_
      refine ev_s1 (L' := [some (vr 0), some (vi c), some (vi (i : Int)), some (vi ((sw1 w c (i : Int)) ((3 + (5 * c)) + (i : Int))))]) (S' := [vi 5, vi 3, vr 6]) k195_50 rfl rfl ?_
      refine ev_s1 (L' := [some (vr 0), some (vi c), some (vi (i : Int)), some (vi ((sw1 w c (i : Int)) ((3 + (5 * c)) + (i : Int))))]) (S' := [vi c, vi 5, vi 3, vr 6]) k195_51 rfl rfl ?_
      refine ev_s1 (L' := [some (vr 0), some (vi c), some (vi (i : Int)), some (vi ((sw1 w c (i : Int)) ((3 + (5 * c)) + (i : Int))))]) (S' := [vi (5 * c), vi 3, vr 6]) k195_52 rfl rfl ?_
      refine ev_s1 (L' := [some (vr 0), some (vi c), some (vi (i : Int)), some (vi ((sw1 w c (i : Int)) ((3 + (5 * c)) + (i : Int))))]) (S' := [vi (3 + (5 * c)), vr 6]) k195_53 rfl rfl ?_
      refine ev_s1 (L' := [some (vr 0), some (vi c), some (vi (i : Int)), some (vi ((sw1 w c (i : Int)) ((3 + (5 * c)) + (i : Int))))]) (S' := [vi (i : Int), vi (3 + (5 * c)), vr 6]) k195_54 rfl rfl ?_
      refine ev_s1 (L' := [some (vr 0), some (vi c), some (vi (i : Int)), some (vi ((sw1 w c (i : Int)) ((3 + (5 * c)) + (i : Int))))]) (S' := [vi ((3 + (5 * c)) + (i : Int)), vr 6]) k195_55 rfl rfl ?_
      refine ev_s1 (L' := [some (vr 0), some (vi c), some (vi (i : Int)), some (vi ((sw1 w c (i : Int)) ((3 + (5 * c)) + (i : Int))))]) (S' := [vr 0, vi ((3 + (5 * c)) + (i : Int)), vr 6]) k195_56 rfl rfl ?_
      refine ev_getR k195_57 (by decide) (rfl) (y_0_13) ?_
      refine ev_s1 (L' := [some (vr 0), some (vi c), some (vi (i : Int)), some (vi ((sw1 w c (i : Int)) ((3 + (5 * c)) + (i : Int))))]) (S' := [vi 3, vr 6, vi ((3 + (5 * c)) + (i : Int)), vr 6]) k195_60 rfl rfl ?_
      refine ev_s1 (L' := [some (vr 0), some (vi c), some (vi (i : Int)), some (vi ((sw1 w c (i : Int)) ((3 + (5 * c)) + (i : Int))))]) (S' := [vi 5, vi 3, vr 6, vi ((3 + (5 * c)) + (i : Int)), vr 6]) k195_61 rfl rfl ?_
      refine ev_s1 (L' := [some (vr 0), some (vi c), some (vi (i : Int)), some (vi ((sw1 w c (i : Int)) ((3 + (5 * c)) + (i : Int))))]) (S' := [vi c, vi 5, vi 3, vr 6, vi ((3 + (5 * c)) + (i : Int)), vr 6]) k195_62 rfl rfl ?_
      refine ev_s1 (L' := [some (vr 0), some (vi c), some (vi (i : Int)), some (vi ((sw1 w c (i : Int)) ((3 + (5 * c)) + (i : Int))))]) (S' := [vi (5 * c), vi 3, vr 6, vi ((3 + (5 * c)) + (i : Int)), vr 6]) k195_63 rfl rfl ?_
      refine ev_s1 (L' := [some (vr 0), some (vi c), some (vi (i : Int)), some (vi ((sw1 w c (i : Int)) ((3 + (5 * c)) + (i : Int))))]) (S' := [vi (3 + (5 * c)), vr 6, vi ((3 + (5 * c)) + (i : Int)), vr 6]) k195_64 rfl rfl ?_
      refine ev_s1 (L' := [some (vr 0), some (vi c), some (vi (i : Int)), some (vi ((sw1 w c (i : Int)) ((3 + (5 * c)) + (i : Int))))]) (S' := [vi 5, vi (3 + (5 * c)), vr 6, vi ((3 + (5 * c)) + (i : Int)), vr 6]) k195_65 rfl rfl ?_
      refine ev_s1 (L' := [some (vr 0), some (vi c), some (vi (i : Int)), some (vi ((sw1 w c (i : Int)) ((3 + (5 * c)) + (i : Int))))]) (S' := [vi ((3 + (5 * c)) + 5), vr 6, vi ((3 + (5 * c)) + (i : Int)), vr 6]) k195_66 rfl rfl ?_
      refine ev_s1 (L' := [some (vr 0), some (vi c), some (vi (i : Int)), some (vi ((sw1 w c (i : Int)) ((3 + (5 * c)) + (i : Int))))]) (S' := [vi (i : Int), vi ((3 + (5 * c)) + 5), vr 6, vi ((3 + (5 * c)) + (i : Int)), vr 6]) k195_67 rfl rfl ?_
      refine ev_s1 (L' := [some (vr 0), some (vi c), some (vi (i : Int)), some (vi ((sw1 w c (i : Int)) ((3 + (5 * c)) + (i : Int))))]) (S' := [vi (((3 + (5 * c)) + 5) + (i : Int)), vr 6, vi ((3 + (5 * c)) + (i : Int)), vr 6]) k195_68 rfl rfl ?_
      refine ev_iald k195_69 (by decide) (rfl) (by omega) (by omega) ?_
      have rr3 := hJ.1 6 (((3 + (5 * c)) + 5) + (i : Int))
      rw [hv6]
      rw [hv6] at rr3
      refine ev_iast k195_70 (by decide) (rfl) (by omega) (by omega) ?_
      show Ev d 195 71 [some (vr 0), some (vi c), some (vi (i : Int)), some (vi ((sw1 w c (i : Int)) ((3 + (5 * c)) + (i : Int))))] [] (SM (up J 6 ((3 + (5 * c)) + (i : Int)) ((sw1 w c (i : Int)) (((3 + (5 * c)) + 5) + (i : Int))))) Q
      have hJ4 := rz_up hJ (k := 6) (j := (3 + (5 * c)) + (i : Int)) (z := (sw1 w c (i : Int)) (((3 + (5 * c)) + 5) + (i : Int))) (by omega) (by omega) (by omega)
      have g4 : ∀ aa, aa ≠ 6 → up J 6 ((3 + (5 * c)) + (i : Int)) ((sw1 w c (i : Int)) (((3 + (5 * c)) + 5) + (i : Int))) aa = J aa := fun aa h => upf h
      have q4 : ∀ bb, bb ≠ (3 + (5 * c)) + (i : Int) → up J 6 ((3 + (5 * c)) + (i : Int)) ((sw1 w c (i : Int)) (((3 + (5 * c)) + 5) + (i : Int))) 6 bb = J 6 bb := fun bb h => upN (Or.inr h)
      have e4 : up J 6 ((3 + (5 * c)) + (i : Int)) ((sw1 w c (i : Int)) (((3 + (5 * c)) + 5) + (i : Int))) 6 ((3 + (5 * c)) + (i : Int)) = (sw1 w c (i : Int)) (((3 + (5 * c)) + 5) + (i : Int)) := upE rfl rfl
      generalize up J 6 ((3 + (5 * c)) + (i : Int)) ((sw1 w c (i : Int)) (((3 + (5 * c)) + 5) + (i : Int))) = J4 at hJ4 g4 q4 e4 ⊢
      refine ev_s1 (L' := [some (vr 0), some (vi c), some (vi (i : Int)), some (vi ((sw1 w c (i : Int)) ((3 + (5 * c)) + (i : Int))))]) (S' := [vr 0]) k195_71 rfl rfl ?_
      refine ev_getR k195_72 (by decide) (rfl) (y_0_13) ?_
      refine ev_s1 (L' := [some (vr 0), some (vi c), some (vi (i : Int)), some (vi ((sw1 w c (i : Int)) ((3 + (5 * c)) + (i : Int))))]) (S' := [vi 3, vr 6]) k195_75 rfl rfl ?_
      refine ev_s1 (L' := [some (vr 0), some (vi c), some (vi (i : Int)), some (vi ((sw1 w c (i : Int)) ((3 + (5 * c)) + (i : Int))))]) (S' := [vi 5, vi 3, vr 6]) k195_76 rfl rfl ?_
      refine ev_s1 (L' := [some (vr 0), some (vi c), some (vi (i : Int)), some (vi ((sw1 w c (i : Int)) ((3 + (5 * c)) + (i : Int))))]) (S' := [vi c, vi 5, vi 3, vr 6]) k195_77 rfl rfl ?_
      refine ev_s1 (L' := [some (vr 0), some (vi c), some (vi (i : Int)), some (vi ((sw1 w c (i : Int)) ((3 + (5 * c)) + (i : Int))))]) (S' := [vi (5 * c), vi 3, vr 6]) k195_78 rfl rfl ?_
      refine ev_s1 (L' := [some (vr 0), some (vi c), some (vi (i : Int)), some (vi ((sw1 w c (i : Int)) ((3 + (5 * c)) + (i : Int))))]) (S' := [vi (3 + (5 * c)), vr 6]) k195_79 rfl rfl ?_
      refine ev_s1 (L' := [some (vr 0), some (vi c), some (vi (i : Int)), some (vi ((sw1 w c (i : Int)) ((3 + (5 * c)) + (i : Int))))]) (S' := [vi 5, vi (3 + (5 * c)), vr 6]) k195_80 rfl rfl ?_
      refine ev_s1 (L' := [some (vr 0), some (vi c), some (vi (i : Int)), some (vi ((sw1 w c (i : Int)) ((3 + (5 * c)) + (i : Int))))]) (S' := [vi ((3 + (5 * c)) + 5), vr 6]) k195_81 rfl rfl ?_
      refine ev_s1 (L' := [some (vr 0), some (vi c), some (vi (i : Int)), some (vi ((sw1 w c (i : Int)) ((3 + (5 * c)) + (i : Int))))]) (S' := [vi (i : Int), vi ((3 + (5 * c)) + 5), vr 6]) k195_82 rfl rfl ?_
      refine ev_s1 (L' := [some (vr 0), some (vi c), some (vi (i : Int)), some (vi ((sw1 w c (i : Int)) ((3 + (5 * c)) + (i : Int))))]) (S' := [vi (((3 + (5 * c)) + 5) + (i : Int)), vr 6]) k195_83 rfl rfl ?_
      refine ev_s1 (L' := [some (vr 0), some (vi c), some (vi (i : Int)), some (vi ((sw1 w c (i : Int)) ((3 + (5 * c)) + (i : Int))))]) (S' := [vi ((sw1 w c (i : Int)) ((3 + (5 * c)) + (i : Int))), vi (((3 + (5 * c)) + 5) + (i : Int)), vr 6]) k195_84 rfl rfl ?_
      refine ev_iast k195_85 (by decide) (rfl) (by omega) (by omega) ?_
      show Ev d 195 86 [some (vr 0), some (vi c), some (vi (i : Int)), some (vi ((sw1 w c (i : Int)) ((3 + (5 * c)) + (i : Int))))] [] (SM (up J4 6 (((3 + (5 * c)) + 5) + (i : Int)) ((sw1 w c (i : Int)) ((3 + (5 * c)) + (i : Int))))) Q
      have hJ5 := rz_up hJ4 (k := 6) (j := ((3 + (5 * c)) + 5) + (i : Int)) (z := (sw1 w c (i : Int)) ((3 + (5 * c)) + (i : Int))) (by omega) (by omega) (by omega)
      have g5 : ∀ aa, aa ≠ 6 → up J4 6 (((3 + (5 * c)) + 5) + (i : Int)) ((sw1 w c (i : Int)) ((3 + (5 * c)) + (i : Int))) aa = J4 aa := fun aa h => upf h
      have q5 : ∀ bb, bb ≠ ((3 + (5 * c)) + 5) + (i : Int) → up J4 6 (((3 + (5 * c)) + 5) + (i : Int)) ((sw1 w c (i : Int)) ((3 + (5 * c)) + (i : Int))) 6 bb = J4 6 bb := fun bb h => upN (Or.inr h)
      have e5 : up J4 6 (((3 + (5 * c)) + 5) + (i : Int)) ((sw1 w c (i : Int)) ((3 + (5 * c)) + (i : Int))) 6 (((3 + (5 * c)) + 5) + (i : Int)) = (sw1 w c (i : Int)) ((3 + (5 * c)) + (i : Int)) := upE rfl rfl
      generalize up J4 6 (((3 + (5 * c)) + 5) + (i : Int)) ((sw1 w c (i : Int)) ((3 + (5 * c)) + (i : Int))) = J5 at hJ5 g5 q5 e5 ⊢
      refine ev_s1 (L' := [some (vr 0), some (vi c), some (vi ((i : Int) + 1)), some (vi ((sw1 w c (i : Int)) ((3 + (5 * c)) + (i : Int))))]) (S' := []) k195_86 rfl rfl ?_
      refine ev_goto (t := 27) k195_89 rfl ?_
      refine ih J5 (i + 1) _ hJ5 (by omega) (by omega) ?_ (fun a a6 => ((g5 a (by assumption)).trans ((g4 a (by assumption)).trans (hF0 a a6))))
      funext b
      by_cases qx5 : b = 3 + 5 * c + 5 + (i : Int)
      · rw [qx5, e5, sw1_a (by omega)]
        unfold sw1
        rw [if_neg (by omega), if_pos (by omega), show 3 + 5 * c + 5 + (i : Int) - 5 = 3 + 5 * c + (i : Int) by omega]
      · rw [q5 b qx5]
        by_cases qx0 : b = 3 + 5 * c + (i : Int)
        · rw [qx0, e4, sw1_b (by omega) (by omega)]
          unfold sw1
          rw [if_pos (by omega), show 3 + 5 * c + (i : Int) + 5 = 3 + 5 * c + 5 + (i : Int) by omega]
        · rw [q4 b qx0, hv6, sw1_s qx0 qx5]
          rfl

theorem mov_lo {w : Int → Int} {c b : Int} (c0 : 0 ≤ c) (hb : b < 3) : movW w c b = w b := by
  unfold movW
  rw [sw2_lo (by omega), sw1_lo c0 hb]
/-- the place from which a chair comes -/
def swq (c x : Int) : Int := if x = c then c + 1 else if x = c + 1 then c else x
theorem swq_rng {c x n : Int} (c0 : 0 ≤ c) (c1 : c + 1 < n) (x0 : 0 ≤ x) (x1 : x < n) : 0 ≤ swq c x ∧ swq c x < n := by
  unfold swq
  repeat' split
  all_goals omega
theorem mov_c {w : Int → Int} {c x r : Int} (x0 : 0 ≤ x) (x5 : x < 5) (r0 : 0 ≤ r) (r5 : r < 5) : movW w c (3 + 5 * x + r) = w (3 + 5 * (swq c x) + r) := by
  unfold movW
  rw [sw2_lo (by omega)]
  unfold sw1 swq
  by_cases q : x = c
  · rw [if_pos (by omega), if_pos q, show 3 + 5 * x + r + 5 = 3 + 5 * (c + 1) + r by omega]
  · rw [if_neg (by omega), if_neg q]
    by_cases q2 : x = c + 1
    · rw [if_pos (by omega), if_pos q2, show 3 + 5 * x + r - 5 = 3 + 5 * c + r by omega]
    · rw [if_neg (by omega), if_neg q2]
theorem mov_c0 {w : Int → Int} {c x : Int} (x0 : 0 ≤ x) (x5 : x < 5) : movW w c (3 + 5 * x) = w (3 + 5 * (swq c x)) := by
  have := mov_c (w := w) (c := c) (r := 0) x0 x5 (by decide) (by decide)
  rw [Int.add_zero, Int.add_zero] at this
  exact this
theorem mov_g {w : Int → Int} {c g r : Int} (c4 : c < 4) (g0 : 0 ≤ g) (r0 : 0 ≤ r) (r4 : r < 4) (hr : r ≠ 2) : movW w c (28 + 4 * g + r) = w (28 + 4 * g + r) := by
  unfold movW sw2
  rw [if_neg (by omega), sw1_hi c4 (by omega)]
theorem mov_g0 {w : Int → Int} {c g : Int} (c4 : c < 4) (g0 : 0 ≤ g) : movW w c (28 + 4 * g) = w (28 + 4 * g) := by
  have := mov_g (w := w) (c := c) (r := 0) c4 g0 (by decide) (by decide) (by decide)
  rw [Int.add_zero] at this
  exact this
theorem mov_at {w : Int → Int} {c g : Int} (c4 : c < 4) (g0 : 0 ≤ g) (g1 : g < w 2) : movW w c (28 + 4 * g + 2) = swp c (w (28 + 4 * g + 2)) := by
  unfold movW sw2
  rw [if_pos (by omega), sw1_hi c4 (by omega)]
theorem mov_ok {w : Int → Int} {c : Int} (hw : OKW w) (c0 : 0 ≤ c) (c1 : c + 1 < w 1) : OKW (movW w c) := by
  obtain ⟨wa, w1, w2, hC, hG, hU⟩ := hw
  have c4 : c < 4 := by omega
  refine ⟨?_, ?_, ?_, fun x x0 x1 => ?_, fun g g0 g1 => ?_, fun g h g0 g1 h0 h1 e ne => ?_⟩
  · rw [mov_lo c0 (by decide)]; exact wa
  · rw [mov_lo c0 (by decide)]; exact w1
  · rw [mov_lo c0 (by decide)]; exact w2
  · rw [mov_lo c0 (by decide)] at x1
    have x5 : x < 5 := by omega
    unfold OKC
    rw [mov_c0 x0 x5, mov_c x0 x5 (by decide) (by decide), mov_c x0 x5 (by decide) (by decide), mov_c x0 x5 (by decide) (by decide), mov_c x0 x5 (by decide) (by decide)]
    have q := swq_rng c0 c1 x0 x1
    exact hC _ q.1 q.2
  · rw [mov_lo c0 (by decide)] at g1
    obtain ⟨a0, a1, a2, a3⟩ := hG g g0 g1
    unfold OKG
    rw [mov_g0 c4 g0, mov_g c4 g0 (by decide) (by decide) (by decide), mov_at c4 g0 g1, mov_g c4 g0 (by decide) (by decide) (by decide), mov_lo c0 (by decide)]
    refine ⟨a0, a1, ?_, fun q => a3 (fun z => q (by unfold swp; rw [z, if_neg (by omega), if_neg (by omega)]))⟩
    unfold swp
    repeat' split
    all_goals omega
  · rw [mov_lo c0 (by decide)] at g1 h1
    rw [mov_at c4 g0 g1] at e ne
    rw [mov_at c4 h0 h1] at e
    refine hU g h g0 g1 h0 h1 ?_ ?_
    · unfold swp at e
      repeat' split at e
      all_goals omega
    · intro z
      apply ne
      unfold swp
      rw [z, if_neg (by omega), if_neg (by omega)]

set_option maxHeartbeats 1000000 in
theorem m_move {d : Nat} {J : Nat → Int → Int} {Q : Option jV → jS → Prop} (hJ : RZ J) (hw : OKW (J 6)) (t0 : 0 ≤ J 0 17) (t1 : J 0 17 ≤ 24) {c : Int} (ca : -2147483648 ≤ c) (cb : c < 2147483648) (hd : 3 ≤ d) (hB : ¬ (0 ≤ c ∧ c + 1 < J 6 1) → Q (some (vi (-1000001))) (SM J)) (hQ : (0 ≤ c ∧ c + 1 < J 6 1) → ∀ J', ACT J J' (movW (J 6) c) → Q (some (vi (peW (movW (J 6) c)))) (SM J')) : Cl d 195 [vr 0, vi c] (SM J) Q := by
  have w0 := hw.1
  have w1 := hw.2.1
  have w2 := hw.2.2.1
  refine ⟨by rw [l195]; exact Nat.le_of_ble_eq_true rfl, ?_⟩
  rw [l195]
  show Ev d 195 0 [some (vr 0), some (vi c), none, none] [] (SM J) Q
  refine ev_s1 (L' := [some (vr 0), some (vi c), none, none]) (S' := [vr 0]) k195_0 rfl rfl ?_
  refine ev_s1 (L' := [some (vr 0), some (vi c), none, none]) (S' := [vi c, vr 0]) k195_1 rfl rfl ?_
  refine ev_virt (a := [vi c]) (S' := []) k195_2 rfl (Nat.le_of_ble_eq_true rfl) (by decide) (rfl) (by omega) ?_
  refine m_isChair hJ (c := c) (by omega) (by omega) (by omega) (by omega) (fun h1 => ?_) (fun h1 => ?_)
  · show Ev d 195 5 [some (vr 0), some (vi c), none, none] [vi 1] (SM J) Q
    refine ev_z_eq (t := 18) k195_5 rfl (by omega) (by omega) (fun h => absurd h (by decide)) (fun _ => ?_)
    refine ev_s1 (L' := [some (vr 0), some (vi c), none, none]) (S' := [vr 0]) k195_8 rfl rfl ?_
    refine ev_s1 (L' := [some (vr 0), some (vi c), none, none]) (S' := [vi c, vr 0]) k195_9 rfl rfl ?_
    refine ev_s1 (L' := [some (vr 0), some (vi c), none, none]) (S' := [vi 1, vi c, vr 0]) k195_10 rfl rfl ?_
    refine ev_s1 (L' := [some (vr 0), some (vi c), none, none]) (S' := [vi (c + 1), vr 0]) k195_11 rfl rfl ?_
    refine ev_virt (a := [vi (c + 1)]) (S' := []) k195_12 rfl (Nat.le_of_ble_eq_true rfl) (by decide) (rfl) (by omega) ?_
    refine m_isChair hJ (c := c + 1) (by omega) (by omega) (by omega) (by omega) (fun h2 => ?_) (fun h2 => ?_)
    · show Ev d 195 15 [some (vr 0), some (vi c), none, none] [vi 1] (SM J) Q
      refine ev_z_ne (t := 21) k195_15 rfl (by omega) (by omega) (fun _ => ?_) (fun h => absurd h (by decide))
      refine ev_s1 (L' := [some (vr 0), some (vi c), none, none]) (S' := [vr 0]) k195_21 rfl rfl ?_
      refine ev_virt (a := []) (S' := []) k195_22 rfl (Nat.le_of_ble_eq_true rfl) (by decide) (rfl) (by omega) ?_
      refine m_notes hJ (by omega) (by omega) (by omega) (fun J3 hJ3 nt3 q3 f3 => ?_)
      show Ev d 195 25 [some (vr 0), some (vi c), none, none] [] (SM J3) Q
      refine ev_s1 (L' := [some (vr 0), some (vi c), none, none]) (S' := [vi 0]) k195_25 rfl rfl ?_
      refine ev_s1 (L' := [some (vr 0), some (vi c), some (vi 0), none]) (S' := []) k195_26 rfl rfl ?_
      refine m_mov1 (K := J3) (w := J 6) hw (by omega) (by omega) (by omega) (mov_ok hw (by omega) (by omega)) (fun J' hJ' h6 hf => hQ (by omega) J' ⟨hJ', h6, nt3.fr (by rw [hf 0 (by decide)]) (by rw [hf 9 (by decide)]), fun b hb => (congrFun (hf 0 (by decide)) b).trans (q3 b hb), fun a ha => (hf a (by omega)).trans (f3 a (by omega))⟩) 6 J3 0 none hJ3 (by omega) (by omega) ?_ (fun _ _ => rfl)
      rw [f3 6 (by decide)]
      funext b
      unfold sw1
      rw [if_neg (by omega), if_neg (by omega)]
    · show Ev d 195 15 [some (vr 0), some (vi c), none, none] [vi 0] (SM J) Q
      refine ev_z_ne (t := 21) k195_15 rfl (by omega) (by omega) (fun h => absurd h (by decide)) (fun _ => ?_)
      refine ev_ldc k195_18 ?_
      refine ev_ireturn k195_20 ?_
      exact hB (by omega)
  · show Ev d 195 5 [some (vr 0), some (vi c), none, none] [vi 0] (SM J) Q
    refine ev_z_eq (t := 18) k195_5 rfl (by omega) (by omega) (fun _ => ?_) (fun h => absurd h (by decide))
    refine ev_ldc k195_18 ?_
    refine ev_ireturn k195_20 ?_
    exact hB (by omega)

set_option maxHeartbeats 1000000 in
theorem m_chair {d : Nat} {J : Nat → Int → Int} {Q : Option jV → jS → Prop} (hJ : RZ J) (hw : OKW (J 6)) {c x : Int} (ca : -2147483648 ≤ c) (cb : c < 2147483648) (xa : -2147483648 ≤ x) (xb : x < 2147483648) (hd : 2 ≤ d) (hB : ¬ ((0 ≤ c ∧ c < J 6 1) ∧ (0 ≤ x ∧ x ≤ 4)) → Q (some (vi (-1000001))) (SM J)) (hQ : ((0 ≤ c ∧ c < J 6 1) ∧ (0 ≤ x ∧ x ≤ 4)) → Q (some (vi (if x = 4 then sitW (J 6) c else J 6 (3 + 5 * c + 1 + x)))) (SM J)) : Cl d 197 [vr 0, vi c, vi x] (SM J) Q := by
  have w0 := hw.1
  have w1 := hw.2.1
  have w2 := hw.2.2.1
  refine ⟨by rw [l197]; exact Nat.le_of_ble_eq_true rfl, ?_⟩
  rw [l197]
  show Ev d 197 0 [some (vr 0), some (vi c), some (vi x)] [] (SM J) Q
  refine ev_s1 (L' := [some (vr 0), some (vi c), some (vi x)]) (S' := [vr 0]) k197_0 rfl rfl ?_
  refine ev_s1 (L' := [some (vr 0), some (vi c), some (vi x)]) (S' := [vi c, vr 0]) k197_1 rfl rfl ?_
  refine ev_virt (a := [vi c]) (S' := []) k197_2 rfl (Nat.le_of_ble_eq_true rfl) (by decide) (rfl) (by omega) ?_
  refine m_isChair hJ (c := c) (by omega) (by omega) (by omega) (by omega) (fun h1 => ?_) (fun h1 => ?_)
  · show Ev d 197 5 [some (vr 0), some (vi c), some (vi x)] [vi 1] (SM J) Q
    refine ev_z_eq (t := 17) k197_5 rfl (by omega) (by omega) (fun h => absurd h (by decide)) (fun _ => ?_)
    refine ev_s1 (L' := [some (vr 0), some (vi c), some (vi x)]) (S' := [vi x]) k197_8 rfl rfl ?_
    refine ev_s1 (L' := [some (vr 0), some (vi c), some (vi x)]) (S' := [vi 0, vi x]) k197_9 rfl rfl ?_
    refine ev_s1 (L' := [some (vr 0), some (vi c), some (vi x)]) (S' := [vi 4, vi 0, vi x]) k197_10 rfl rfl ?_
    refine ev_static (a := [vi x, vi 0, vi 4]) (S' := []) k197_11 rfl (Nat.le_of_ble_eq_true rfl) (by omega) ?_
    refine m_in (v := x) (lo := 0) (hi := 4) (by omega) (by omega) (by omega) (by omega) (by omega) (by omega) (fun h2 => ?_) (fun h2 => ?_)
    · show Ev d 197 14 [some (vr 0), some (vi c), some (vi x)] [vi 1] (SM J) Q
      refine ev_z_ne (t := 20) k197_14 rfl (by omega) (by omega) (fun _ => ?_) (fun h => absurd h (by decide))
      refine ev_s1 (L' := [some (vr 0), some (vi c), some (vi x)]) (S' := [vi x]) k197_20 rfl rfl ?_
      refine ev_s1 (L' := [some (vr 0), some (vi c), some (vi x)]) (S' := [vi 4, vi x]) k197_21 rfl rfl ?_
      refine ev_c_ne (t := 36) k197_22 rfl (by omega) (by omega) (by omega) (by omega) (fun h3 => ?_) (fun h3 => ?_)
      · refine ev_s1 (L' := [some (vr 0), some (vi c), some (vi x)]) (S' := [vr 0]) k197_36 rfl rfl ?_
        refine ev_getR k197_37 (by decide) (rfl) (y_0_13) ?_
        refine ev_s1 (L' := [some (vr 0), some (vi c), some (vi x)]) (S' := [vi 3, vr 6]) k197_40 rfl rfl ?_
        refine ev_s1 (L' := [some (vr 0), some (vi c), some (vi x)]) (S' := [vi 5, vi 3, vr 6]) k197_41 rfl rfl ?_
        refine ev_s1 (L' := [some (vr 0), some (vi c), some (vi x)]) (S' := [vi c, vi 5, vi 3, vr 6]) k197_42 rfl rfl ?_
        refine ev_s1 (L' := [some (vr 0), some (vi c), some (vi x)]) (S' := [vi (5 * c), vi 3, vr 6]) k197_43 rfl rfl ?_
        refine ev_s1 (L' := [some (vr 0), some (vi c), some (vi x)]) (S' := [vi (3 + (5 * c)), vr 6]) k197_44 rfl rfl ?_
        refine ev_s1 (L' := [some (vr 0), some (vi c), some (vi x)]) (S' := [vi 1, vi (3 + (5 * c)), vr 6]) k197_45 rfl rfl ?_
        refine ev_s1 (L' := [some (vr 0), some (vi c), some (vi x)]) (S' := [vi ((3 + (5 * c)) + 1), vr 6]) k197_46 rfl rfl ?_
        refine ev_s1 (L' := [some (vr 0), some (vi c), some (vi x)]) (S' := [vi x, vi ((3 + (5 * c)) + 1), vr 6]) k197_47 rfl rfl ?_
        refine ev_s1 (L' := [some (vr 0), some (vi c), some (vi x)]) (S' := [vi (((3 + (5 * c)) + 1) + x), vr 6]) k197_48 rfl rfl ?_
        refine ev_iald k197_49 (by decide) (rfl) (by omega) (by omega) ?_
        have rr4 := hJ.1 6 (((3 + (5 * c)) + 1) + x)
        refine ev_ireturn k197_50 ?_
        rw [if_neg (by omega)] at hQ
        exact hQ (by omega)
      · refine ev_s1 (L' := [some (vr 0), some (vi c), some (vi x)]) (S' := [vr 0]) k197_25 rfl rfl ?_
        refine ev_getR k197_26 (by decide) (rfl) (y_0_13) ?_
        refine ev_s1 (L' := [some (vr 0), some (vi c), some (vi x)]) (S' := [vi c, vr 6]) k197_29 rfl rfl ?_
        refine ev_static (a := [vr 6, vi c]) (S' := []) k197_30 rfl (Nat.le_of_ble_eq_true rfl) (by omega) ?_
        refine m_sitter hJ (k := 6) (by decide) (c := c) (by omega) (by omega) (by omega) (by omega) (?_)
        have sr30 := sit_rng (J 6) c (by omega)
        show Ev d 197 33 [some (vr 0), some (vi c), some (vi x)] [vi (sitW (J 6) c)] (SM J) Q
        refine ev_goto (t := 50) k197_33 rfl ?_
        refine ev_ireturn k197_50 ?_
        rw [if_pos (by omega)] at hQ
        exact hQ (by omega)
    · show Ev d 197 14 [some (vr 0), some (vi c), some (vi x)] [vi 0] (SM J) Q
      refine ev_z_ne (t := 20) k197_14 rfl (by omega) (by omega) (fun h => absurd h (by decide)) (fun _ => ?_)
      refine ev_ldc k197_17 ?_
      refine ev_ireturn k197_19 ?_
      exact hB (by omega)
  · show Ev d 197 5 [some (vr 0), some (vi c), some (vi x)] [vi 0] (SM J) Q
    refine ev_z_eq (t := 17) k197_5 rfl (by omega) (by omega) (fun _ => ?_) (fun h => absurd h (by decide))
    refine ev_ldc k197_17 ?_
    refine ev_ireturn k197_19 ?_
    exact hB (by omega)

set_option maxHeartbeats 1000000 in
theorem m_guest {d : Nat} {J : Nat → Int → Int} {Q : Option jV → jS → Prop} (hJ : RZ J) (hw : OKW (J 6)) {g x : Int} (ga : -2147483648 ≤ g) (gb : g < 2147483648) (xa : -2147483648 ≤ x) (xb : x < 2147483648) (hd : 2 ≤ d) (hB : ¬ ((0 ≤ g ∧ g < J 6 2) ∧ (0 ≤ x ∧ x ≤ 3)) → Q (some (vi (-1000001))) (SM J)) (hg0 : (0 ≤ g ∧ g < J 6 2) → x = 0 → Q (some (vi (J 6 (28 + 4 * g)))) (SM J)) (hg1 : (0 ≤ g ∧ g < J 6 2) → x = 1 → Q (some (vi (J 6 (28 + 4 * g + 1)))) (SM J)) (hg2 : (0 ≤ g ∧ g < J 6 2) → x = 2 → Q (some (vi (if J 6 (28 + 4 * g + 2) = 0 then -1000000 else J 6 (28 + 4 * g + 2) - 1))) (SM J)) (hg3 : (0 ≤ g ∧ g < J 6 2) → x = 3 → Q (some (vi (if J 6 (28 + 4 * g + 2) = 0 then -1000000 else J 6 (28 + 4 * g + 3)))) (SM J)) : Cl d 198 [vr 0, vi g, vi x] (SM J) Q := by
  have w0 := hw.1
  have w1 := hw.2.1
  have w2 := hw.2.2.1
  refine ⟨by rw [l198]; exact Nat.le_of_ble_eq_true rfl, ?_⟩
  rw [l198]
  show Ev d 198 0 [some (vr 0), some (vi g), some (vi x), none] [] (SM J) Q
  refine ev_s1 (L' := [some (vr 0), some (vi g), some (vi x), none]) (S' := [vr 0]) k198_0 rfl rfl ?_
  refine ev_s1 (L' := [some (vr 0), some (vi g), some (vi x), none]) (S' := [vi g, vr 0]) k198_1 rfl rfl ?_
  refine ev_virt (a := [vi g]) (S' := []) k198_2 rfl (Nat.le_of_ble_eq_true rfl) (by decide) (rfl) (by omega) ?_
  refine m_isGuest hJ (g := g) (by omega) (by omega) (by omega) (by omega) (fun h1 => ?_) (fun h1 => ?_)
  · show Ev d 198 5 [some (vr 0), some (vi g), some (vi x), none] [vi 1] (SM J) Q
    refine ev_z_ne (t := 11) k198_5 rfl (by omega) (by omega) (fun _ => ?_) (fun h => absurd h (by decide))
    refine ev_s1 (L' := [some (vr 0), some (vi g), some (vi x), none]) (S' := [vi 28]) k198_11 rfl rfl ?_
    refine ev_s1 (L' := [some (vr 0), some (vi g), some (vi x), none]) (S' := [vi 4, vi 28]) k198_13 rfl rfl ?_
    refine ev_s1 (L' := [some (vr 0), some (vi g), some (vi x), none]) (S' := [vi g, vi 4, vi 28]) k198_14 rfl rfl ?_
    refine ev_s1 (L' := [some (vr 0), some (vi g), some (vi x), none]) (S' := [vi (4 * g), vi 28]) k198_15 rfl rfl ?_
    refine ev_s1 (L' := [some (vr 0), some (vi g), some (vi x), none]) (S' := [vi (28 + (4 * g))]) k198_16 rfl rfl ?_
    refine ev_s1 (L' := [some (vr 0), some (vi g), some (vi x), some (vi (28 + (4 * g)))]) (S' := []) k198_17 rfl rfl ?_
    refine ev_s1 (L' := [some (vr 0), some (vi g), some (vi x), some (vi (28 + (4 * g)))]) (S' := [vi x]) k198_18 rfl rfl ?_
    rcases (show x = 0 ∨ x = 1 ∨ x = 2 ∨ x = 3 ∨ (x < 0 ∨ 3 < x) by omega) with hs2 | hs2 | hs2 | hs2 | hs2
    · refine ev_tsw (t := 48) k198_19 hs2 rfl ?_
      refine ev_s1 (L' := [some (vr 0), some (vi g), some (vi x), some (vi (28 + (4 * g)))]) (S' := [vr 0]) k198_48 rfl rfl ?_
      refine ev_getR k198_49 (by decide) (rfl) (y_0_13) ?_
      refine ev_s1 (L' := [some (vr 0), some (vi g), some (vi x), some (vi (28 + (4 * g)))]) (S' := [vi (28 + (4 * g)), vr 6]) k198_52 rfl rfl ?_
      refine ev_iald k198_53 (by decide) (rfl) (by omega) (by omega) ?_
      have rr3 := hJ.1 6 (28 + (4 * g))
      refine ev_ireturn k198_54 ?_
      exact hg0 (by omega) (by omega)
    · refine ev_tsw (t := 55) k198_19 hs2 rfl ?_
      refine ev_s1 (L' := [some (vr 0), some (vi g), some (vi x), some (vi (28 + (4 * g)))]) (S' := [vr 0]) k198_55 rfl rfl ?_
      refine ev_getR k198_56 (by decide) (rfl) (y_0_13) ?_
      refine ev_s1 (L' := [some (vr 0), some (vi g), some (vi x), some (vi (28 + (4 * g)))]) (S' := [vi (28 + (4 * g)), vr 6]) k198_59 rfl rfl ?_
      refine ev_s1 (L' := [some (vr 0), some (vi g), some (vi x), some (vi (28 + (4 * g)))]) (S' := [vi 1, vi (28 + (4 * g)), vr 6]) k198_60 rfl rfl ?_
      refine ev_s1 (L' := [some (vr 0), some (vi g), some (vi x), some (vi (28 + (4 * g)))]) (S' := [vi ((28 + (4 * g)) + 1), vr 6]) k198_61 rfl rfl ?_
      refine ev_iald k198_62 (by decide) (rfl) (by omega) (by omega) ?_
      have rr4 := hJ.1 6 ((28 + (4 * g)) + 1)
      refine ev_ireturn k198_63 ?_
      exact hg1 (by omega) (by omega)
    · refine ev_tsw (t := 64) k198_19 hs2 rfl ?_
      refine ev_s1 (L' := [some (vr 0), some (vi g), some (vi x), some (vi (28 + (4 * g)))]) (S' := [vr 0]) k198_64 rfl rfl ?_
      refine ev_getR k198_65 (by decide) (rfl) (y_0_13) ?_
      refine ev_s1 (L' := [some (vr 0), some (vi g), some (vi x), some (vi (28 + (4 * g)))]) (S' := [vi (28 + (4 * g)), vr 6]) k198_68 rfl rfl ?_
      refine ev_s1 (L' := [some (vr 0), some (vi g), some (vi x), some (vi (28 + (4 * g)))]) (S' := [vi 2, vi (28 + (4 * g)), vr 6]) k198_69 rfl rfl ?_
      refine ev_s1 (L' := [some (vr 0), some (vi g), some (vi x), some (vi (28 + (4 * g)))]) (S' := [vi ((28 + (4 * g)) + 2), vr 6]) k198_70 rfl rfl ?_
      refine ev_iald k198_71 (by decide) (rfl) (by omega) (by omega) ?_
      have rr5 := hJ.1 6 ((28 + (4 * g)) + 2)
      refine ev_z_ne (t := 80) k198_72 rfl (by omega) (by omega) (fun h6 => ?_) (fun h6 => ?_)
      · refine ev_s1 (L' := [some (vr 0), some (vi g), some (vi x), some (vi (28 + (4 * g)))]) (S' := [vr 0]) k198_80 rfl rfl ?_
        refine ev_getR k198_81 (by decide) (rfl) (y_0_13) ?_
        refine ev_s1 (L' := [some (vr 0), some (vi g), some (vi x), some (vi (28 + (4 * g)))]) (S' := [vi (28 + (4 * g)), vr 6]) k198_84 rfl rfl ?_
        refine ev_s1 (L' := [some (vr 0), some (vi g), some (vi x), some (vi (28 + (4 * g)))]) (S' := [vi 2, vi (28 + (4 * g)), vr 6]) k198_85 rfl rfl ?_
        refine ev_s1 (L' := [some (vr 0), some (vi g), some (vi x), some (vi (28 + (4 * g)))]) (S' := [vi ((28 + (4 * g)) + 2), vr 6]) k198_86 rfl rfl ?_
        refine ev_iald k198_87 (by decide) (rfl) (by omega) (by omega) ?_
        have rr7 := hJ.1 6 ((28 + (4 * g)) + 2)
        refine ev_s1 (L' := [some (vr 0), some (vi g), some (vi x), some (vi (28 + (4 * g)))]) (S' := [vi 1, vi (J 6 ((28 + (4 * g)) + 2))]) k198_88 rfl rfl ?_
        refine ev_s1 (L' := [some (vr 0), some (vi g), some (vi x), some (vi (28 + (4 * g)))]) (S' := [vi ((J 6 ((28 + (4 * g)) + 2)) - 1)]) k198_89 rfl rfl ?_
        refine ev_ireturn k198_90 ?_
        rw [if_neg (by omega)] at hg2
        exact hg2 (by omega) (by omega)
      · refine ev_ldc k198_75 ?_
        refine ev_goto (t := 90) k198_77 rfl ?_
        refine ev_ireturn k198_90 ?_
        rw [if_pos (by omega)] at hg2
        exact hg2 (by omega) (by omega)
    · refine ev_tsw (t := 91) k198_19 hs2 rfl ?_
      refine ev_s1 (L' := [some (vr 0), some (vi g), some (vi x), some (vi (28 + (4 * g)))]) (S' := [vr 0]) k198_91 rfl rfl ?_
      refine ev_getR k198_92 (by decide) (rfl) (y_0_13) ?_
      refine ev_s1 (L' := [some (vr 0), some (vi g), some (vi x), some (vi (28 + (4 * g)))]) (S' := [vi (28 + (4 * g)), vr 6]) k198_95 rfl rfl ?_
      refine ev_s1 (L' := [some (vr 0), some (vi g), some (vi x), some (vi (28 + (4 * g)))]) (S' := [vi 2, vi (28 + (4 * g)), vr 6]) k198_96 rfl rfl ?_
      refine ev_s1 (L' := [some (vr 0), some (vi g), some (vi x), some (vi (28 + (4 * g)))]) (S' := [vi ((28 + (4 * g)) + 2), vr 6]) k198_97 rfl rfl ?_
      refine ev_iald k198_98 (by decide) (rfl) (by omega) (by omega) ?_
      have rr8 := hJ.1 6 ((28 + (4 * g)) + 2)
      refine ev_z_ne (t := 107) k198_99 rfl (by omega) (by omega) (fun h9 => ?_) (fun h9 => ?_)
      · refine ev_s1 (L' := [some (vr 0), some (vi g), some (vi x), some (vi (28 + (4 * g)))]) (S' := [vr 0]) k198_107 rfl rfl ?_
        refine ev_getR k198_108 (by decide) (rfl) (y_0_13) ?_
        refine ev_s1 (L' := [some (vr 0), some (vi g), some (vi x), some (vi (28 + (4 * g)))]) (S' := [vi (28 + (4 * g)), vr 6]) k198_111 rfl rfl ?_
        refine ev_s1 (L' := [some (vr 0), some (vi g), some (vi x), some (vi (28 + (4 * g)))]) (S' := [vi 3, vi (28 + (4 * g)), vr 6]) k198_112 rfl rfl ?_
        refine ev_s1 (L' := [some (vr 0), some (vi g), some (vi x), some (vi (28 + (4 * g)))]) (S' := [vi ((28 + (4 * g)) + 3), vr 6]) k198_113 rfl rfl ?_
        refine ev_iald k198_114 (by decide) (rfl) (by omega) (by omega) ?_
        have rr10 := hJ.1 6 ((28 + (4 * g)) + 3)
        refine ev_ireturn k198_115 ?_
        rw [if_neg (by omega)] at hg3
        exact hg3 (by omega) (by omega)
      · refine ev_ldc k198_102 ?_
        refine ev_goto (t := 115) k198_104 rfl ?_
        refine ev_ireturn k198_115 ?_
        rw [if_pos (by omega)] at hg3
        exact hg3 (by omega) (by omega)
    · refine ev_tsd (t := 116) k198_19 (by omega) (by omega) hs2 rfl ?_
      refine ev_ldc k198_116 ?_
      refine ev_ireturn k198_118 ?_
      exact hB (by omega)
  · show Ev d 198 5 [some (vr 0), some (vi g), some (vi x), none] [vi 0] (SM J) Q
    refine ev_z_ne (t := 11) k198_5 rfl (by omega) (by omega) (fun h => absurd h (by decide)) (fun _ => ?_)
    refine ev_ldc k198_8 ?_
    refine ev_ireturn k198_10 ?_
    exact hB (by omega)

set_option maxHeartbeats 1000000 in
theorem m_peacep {d : Nat} {J : Nat → Int → Int} {Q : Option jV → jS → Prop} (hJ : RZ J) (hw : OKW (J 6)) (hd : 2 ≤ d) (hS : ¬ 0 < J 6 1 → Q (some (vi (-1000002))) (SM J)) (hQ : 0 < J 6 1 → Q (some (vi (peW (J 6)))) (SM J)) : Cl d 199 [vr 0] (SM J) Q := by
  have w0 := hw.1
  have w1 := hw.2.1
  have w2 := hw.2.2.1
  refine ⟨by rw [l199]; exact Nat.le_of_ble_eq_true rfl, ?_⟩
  rw [l199]
  show Ev d 199 0 [some (vr 0)] [] (SM J) Q
  refine ev_s1 (L' := [some (vr 0)]) (S' := [vr 0]) k199_0 rfl rfl ?_
  refine ev_virt (a := []) (S' := []) k199_1 rfl (Nat.le_of_ble_eq_true rfl) (by decide) (rfl) (by omega) ?_
  refine m_isRoom hJ (fun h1 => ?_) (fun h1 => ?_)
  · show Ev d 199 4 [some (vr 0)] [vi 1] (SM J) Q
    refine ev_z_eq (t := 17) k199_4 rfl (by omega) (by omega) (fun h => absurd h (by decide)) (fun _ => ?_)
    refine ev_s1 (L' := [some (vr 0)]) (S' := [vr 0]) k199_7 rfl rfl ?_
    refine ev_getR k199_8 (by decide) (rfl) (y_0_13) ?_
    refine ev_static (a := [vr 6]) (S' := []) k199_11 rfl (Nat.le_of_ble_eq_true rfl) (by omega) ?_
    refine m_peace hJ (k := 6) (by decide) (by exact hw) (by omega) (?_)
    have pr11 := pe_rng hw
    show Ev d 199 14 [some (vr 0)] [vi (peW (J 6))] (SM J) Q
    refine ev_goto (t := 19) k199_14 rfl ?_
    refine ev_ireturn k199_19 ?_
    exact hQ (by omega)
  · show Ev d 199 4 [some (vr 0)] [vi 0] (SM J) Q
    refine ev_z_eq (t := 17) k199_4 rfl (by omega) (by omega) (fun _ => ?_) (fun h => absurd h (by decide))
    refine ev_ldc k199_17 ?_
    refine ev_ireturn k199_19 ?_
    exact hS (by omega)

set_option maxHeartbeats 1000000 in
theorem m_image {d : Nat} {J : Nat → Int → Int} {Q : Option jV → jS → Prop} (hJ : RZ J) (hw : OKW (J 6)) {k : Int} (ka : -2147483648 ≤ k) (kb : k < 2147483648) (hd : 2 ≤ d) (hB : ¬ (0 ≤ k ∧ k ≤ 1) → Q (some (vi (-1000001))) (SM J)) (hS : (0 ≤ k ∧ k ≤ 1) → ¬ 0 < J 6 1 → Q (some (vi (-1000002))) (SM J)) (hQ : (0 ≤ k ∧ k ≤ 1) → 0 < J 6 1 → ∀ J', RZ J' → J' 10 = cpW (J 6) 0 (J 10) (48 * k) 48 → J' 11 = updF (J 11) k 1 → (∀ a, (a ≠ 10 ∧ a ≠ 11) → J' a = J a) → Q (some (vi 1)) (SM J')) : Cl d 214 [vr 0, vi k] (SM J) Q := by
  have w0 := hw.1
  have w1 := hw.2.1
  have w2 := hw.2.2.1
  refine ⟨by rw [l214]; exact Nat.le_of_ble_eq_true rfl, ?_⟩
  rw [l214]
  show Ev d 214 0 [some (vr 0), some (vi k)] [] (SM J) Q
  refine ev_s1 (L' := [some (vr 0), some (vi k)]) (S' := [vi k]) k214_0 rfl rfl ?_
  refine ev_s1 (L' := [some (vr 0), some (vi k)]) (S' := [vi 0, vi k]) k214_1 rfl rfl ?_
  refine ev_s1 (L' := [some (vr 0), some (vi k)]) (S' := [vi 1, vi 0, vi k]) k214_2 rfl rfl ?_
  refine ev_static (a := [vi k, vi 0, vi 1]) (S' := []) k214_3 rfl (Nat.le_of_ble_eq_true rfl) (by omega) ?_
  refine m_in (v := k) (lo := 0) (hi := 1) (by omega) (by omega) (by omega) (by omega) (by omega) (by omega) (fun h1 => ?_) (fun h1 => ?_)
  · show Ev d 214 6 [some (vr 0), some (vi k)] [vi 1] (SM J) Q
    refine ev_z_ne (t := 12) k214_6 rfl (by omega) (by omega) (fun _ => ?_) (fun h => absurd h (by decide))
    refine ev_s1 (L' := [some (vr 0), some (vi k)]) (S' := [vr 0]) k214_12 rfl rfl ?_
    refine ev_virt (a := []) (S' := []) k214_13 rfl (Nat.le_of_ble_eq_true rfl) (by decide) (rfl) (by omega) ?_
    refine m_isRoom hJ (fun h2 => ?_) (fun h2 => ?_)
    · show Ev d 214 16 [some (vr 0), some (vi k)] [vi 1] (SM J) Q
      refine ev_z_ne (t := 22) k214_16 rfl (by omega) (by omega) (fun _ => ?_) (fun h => absurd h (by decide))
      refine ev_s1 (L' := [some (vr 0), some (vi k)]) (S' := [vr 0]) k214_22 rfl rfl ?_
      refine ev_getR k214_23 (by decide) (rfl) (y_0_13) ?_
      refine ev_s1 (L' := [some (vr 0), some (vi k)]) (S' := [vi 0, vr 6]) k214_26 rfl rfl ?_
      refine ev_s1 (L' := [some (vr 0), some (vi k)]) (S' := [vr 0, vi 0, vr 6]) k214_27 rfl rfl ?_
      refine ev_getR k214_28 (by decide) (rfl) (y_0_18) ?_
      refine ev_s1 (L' := [some (vr 0), some (vi k)]) (S' := [vi 48, vr 10, vi 0, vr 6]) k214_31 rfl rfl ?_
      refine ev_s1 (L' := [some (vr 0), some (vi k)]) (S' := [vi k, vi 48, vr 10, vi 0, vr 6]) k214_33 rfl rfl ?_
      refine ev_s1 (L' := [some (vr 0), some (vi k)]) (S' := [vi (48 * k), vr 10, vi 0, vr 6]) k214_34 rfl rfl ?_
      refine ev_static (a := [vr 6, vi 0, vr 10, vi (48 * k)]) (S' := []) k214_35 rfl (Nat.le_of_ble_eq_true rfl) (by omega) ?_
      refine m_copies hJ (f := 6) (t := 10) (lf := 48) (lt := 96) (a := 0) (b := 48 * k) (by decide) ⟨by decide, rfl⟩ ⟨by decide, rfl⟩ (by omega) (by omega) (by omega) (by omega) (by omega) (by decide) (by decide) (fun J3 hJ3 w3 f3 => ?_)
      show Ev d 214 38 [some (vr 0), some (vi k)] [] (SM J3) Q
      refine ev_s1 (L' := [some (vr 0), some (vi k)]) (S' := [vr 0]) k214_38 rfl rfl ?_
      refine ev_getR k214_39 (by decide) (rfl) (y_0_19) ?_
      refine ev_s1 (L' := [some (vr 0), some (vi k)]) (S' := [vi k, vr 11]) k214_42 rfl rfl ?_
      refine ev_s1 (L' := [some (vr 0), some (vi k)]) (S' := [vi 1, vi k, vr 11]) k214_43 rfl rfl ?_
      refine ev_zast k214_44 (by decide) (rfl) (by omega) (by omega) (by omega) ?_
      show Ev d 214 45 [some (vr 0), some (vi k)] [] (SM (up J3 11 k 1)) Q
      have hJ4 := rz_up hJ3 (k := 11) (j := k) (z := 1) (by omega) (by omega) (by omega)
      have g4 : ∀ aa, aa ≠ 11 → up J3 11 k 1 aa = J3 aa := fun aa h => upf h
      have q4 : ∀ bb, bb ≠ k → up J3 11 k 1 11 bb = J3 11 bb := fun bb h => upN (Or.inr h)
      have e4 : up J3 11 k 1 11 k = 1 := upE rfl rfl
      generalize up J3 11 k 1 = J4 at hJ4 g4 q4 e4 ⊢
      refine ev_s1 (L' := [some (vr 0), some (vi k)]) (S' := [vi 1]) k214_45 rfl rfl ?_
      refine ev_ireturn k214_46 ?_
      exact hQ (by omega) (by omega) _ hJ4 (by rw [g4 10 (by decide)]; exact w3) (by funext b; unfold updF; split; (rename_i q; rw [q]; exact e4); (rename_i q; rw [q4 b q, f3 11 (by decide)])) (fun a ha => ((g4 a (by omega)).trans (f3 a (by omega))))
    · show Ev d 214 16 [some (vr 0), some (vi k)] [vi 0] (SM J) Q
      refine ev_z_ne (t := 22) k214_16 rfl (by omega) (by omega) (fun h => absurd h (by decide)) (fun _ => ?_)
      refine ev_ldc k214_19 ?_
      refine ev_ireturn k214_21 ?_
      exact hS (by omega) (by omega)
  · show Ev d 214 6 [some (vr 0), some (vi k)] [vi 0] (SM J) Q
    refine ev_z_ne (t := 12) k214_6 rfl (by omega) (by omega) (fun h => absurd h (by decide)) (fun _ => ?_)
    refine ev_ldc k214_9 ?_
    refine ev_ireturn k214_11 ?_
    exact hB (by omega)

set_option maxHeartbeats 1000000 in
theorem m_restore {d : Nat} {J : Nat → Int → Int} {Q : Option jV → jS → Prop} (hJ : RZ J) {k : Int} (ka : -2147483648 ≤ k) (kb : k < 2147483648) (hd : 2 ≤ d) (hB : ¬ (0 ≤ k ∧ k ≤ 1) → Q (some (vi (-1000001))) (SM J)) (hS : (0 ≤ k ∧ k ≤ 1) → J 11 k = 0 → Q (some (vi (-1000002))) (SM J)) (hQ : (0 ≤ k ∧ k ≤ 1) → J 11 k ≠ 0 → ∀ J', RZ J' → J' 6 = cutW (J 10) (48 * k) → J' 0 17 = 0 → (∀ b, b ≠ 17 → J' 0 b = J 0 b) → (∀ a, (a ≠ 0 ∧ a ≠ 6) → J' a = J a) → Q (some (vi 1)) (SM J')) : Cl d 215 [vr 0, vi k] (SM J) Q := by
  refine ⟨by rw [l215]; exact Nat.le_of_ble_eq_true rfl, ?_⟩
  rw [l215]
  show Ev d 215 0 [some (vr 0), some (vi k)] [] (SM J) Q
  refine ev_s1 (L' := [some (vr 0), some (vi k)]) (S' := [vi k]) k215_0 rfl rfl ?_
  refine ev_s1 (L' := [some (vr 0), some (vi k)]) (S' := [vi 0, vi k]) k215_1 rfl rfl ?_
  refine ev_s1 (L' := [some (vr 0), some (vi k)]) (S' := [vi 1, vi 0, vi k]) k215_2 rfl rfl ?_
  refine ev_static (a := [vi k, vi 0, vi 1]) (S' := []) k215_3 rfl (Nat.le_of_ble_eq_true rfl) (by omega) ?_
  refine m_in (v := k) (lo := 0) (hi := 1) (by omega) (by omega) (by omega) (by omega) (by omega) (by omega) (fun h1 => ?_) (fun h1 => ?_)
  · show Ev d 215 6 [some (vr 0), some (vi k)] [vi 1] (SM J) Q
    refine ev_z_ne (t := 12) k215_6 rfl (by omega) (by omega) (fun _ => ?_) (fun h => absurd h (by decide))
    refine ev_s1 (L' := [some (vr 0), some (vi k)]) (S' := [vr 0]) k215_12 rfl rfl ?_
    refine ev_getR k215_13 (by decide) (rfl) (y_0_19) ?_
    refine ev_s1 (L' := [some (vr 0), some (vi k)]) (S' := [vi k, vr 11]) k215_16 rfl rfl ?_
    refine ev_zald k215_17 (by decide) (rfl) (by omega) (by omega) ?_
    have rr2 := hJ.1 11 k
    refine ev_z_ne (t := 24) k215_18 rfl (by omega) (by omega) (fun h3 => ?_) (fun h3 => ?_)
    · refine ev_s1 (L' := [some (vr 0), some (vi k)]) (S' := [vr 0]) k215_24 rfl rfl ?_
      refine ev_getR k215_25 (by decide) (rfl) (y_0_18) ?_
      refine ev_s1 (L' := [some (vr 0), some (vi k)]) (S' := [vi 48, vr 10]) k215_28 rfl rfl ?_
      refine ev_s1 (L' := [some (vr 0), some (vi k)]) (S' := [vi k, vi 48, vr 10]) k215_30 rfl rfl ?_
      refine ev_s1 (L' := [some (vr 0), some (vi k)]) (S' := [vi (48 * k), vr 10]) k215_31 rfl rfl ?_
      refine ev_s1 (L' := [some (vr 0), some (vi k)]) (S' := [vr 0, vi (48 * k), vr 10]) k215_32 rfl rfl ?_
      refine ev_getR k215_33 (by decide) (rfl) (y_0_13) ?_
      refine ev_s1 (L' := [some (vr 0), some (vi k)]) (S' := [vi 0, vr 6, vi (48 * k), vr 10]) k215_36 rfl rfl ?_
      refine ev_static (a := [vr 10, vi (48 * k), vr 6, vi 0]) (S' := []) k215_37 rfl (Nat.le_of_ble_eq_true rfl) (by omega) ?_
      refine m_copies hJ (f := 10) (t := 6) (lf := 96) (lt := 48) (a := 48 * k) (b := 0) (by decide) ⟨by decide, rfl⟩ ⟨by decide, rfl⟩ (by omega) (by omega) (by omega) (by omega) (by omega) (by decide) (by decide) (fun J4 hJ4 w4 f4 => ?_)
      show Ev d 215 40 [some (vr 0), some (vi k)] [] (SM J4) Q
      refine ev_s1 (L' := [some (vr 0), some (vi k)]) (S' := [vr 0]) k215_40 rfl rfl ?_
      refine ev_s1 (L' := [some (vr 0), some (vi k)]) (S' := [vi 0, vr 0]) k215_41 rfl rfl ?_
      refine ev_putI k215_42 (by decide) (rfl) ?_
      show Ev d 215 45 [some (vr 0), some (vi k)] [] (SM (up J4 0 17 0)) Q
      have hJ5 := rz_up hJ4 (k := 0) (j := 17) (z := 0) (by omega) (by omega) (by omega)
      have g5 : ∀ aa, aa ≠ 0 → up J4 0 17 0 aa = J4 aa := fun aa h => upf h
      have q5 : ∀ bb, bb ≠ 17 → up J4 0 17 0 0 bb = J4 0 bb := fun bb h => upN (Or.inr h)
      have e5 : up J4 0 17 0 0 17 = 0 := upE rfl rfl
      generalize up J4 0 17 0 = J5 at hJ5 g5 q5 e5 ⊢
      refine ev_s1 (L' := [some (vr 0), some (vi k)]) (S' := [vi 1]) k215_45 rfl rfl ?_
      refine ev_ireturn k215_46 ?_
      exact hQ (by omega) (by omega) _ hJ5 (by rw [g5 6 (by decide), w4]; exact cp_cut (t := 6) hJ.2 (by decide)) e5 (fun b hb => ((q5 b hb).trans (congrFun (f4 0 (by decide)) b))) (fun a ha => ((g5 a (by omega)).trans (f4 a (by omega))))
    · refine ev_ldc k215_21 ?_
      refine ev_ireturn k215_23 ?_
      exact hS (by omega) (by omega)
  · show Ev d 215 6 [some (vr 0), some (vi k)] [vi 0] (SM J) Q
    refine ev_z_ne (t := 12) k215_6 rfl (by omega) (by omega) (fun h => absurd h (by decide)) (fun _ => ?_)
    refine ev_ldc k215_9 ?_
    refine ev_ireturn k215_11 ?_
    exact hB (by omega)

set_option maxHeartbeats 1000000 in
theorem m_kindIn {d : Nat} {J : Nat → Int → Int} {Q : Option jV → jS → Prop} (hJ : RZ J) {c : Int} (c0 : 0 ≤ c) (c5 : c < 5) (hQ : Q (some (vi (J 6 (3 + 5 * c)))) (SM J)) : Cl d 216 [vr 0, vi c] (SM J) Q := by
  refine ⟨by rw [l216]; exact Nat.le_of_ble_eq_true rfl, ?_⟩
  rw [l216]
  show Ev d 216 0 [some (vr 0), some (vi c)] [] (SM J) Q
  refine ev_s1 (L' := [some (vr 0), some (vi c)]) (S' := [vr 0]) k216_0 rfl rfl ?_
  refine ev_getR k216_1 (by decide) (rfl) (y_0_13) ?_
  refine ev_s1 (L' := [some (vr 0), some (vi c)]) (S' := [vi 3, vr 6]) k216_4 rfl rfl ?_
  refine ev_s1 (L' := [some (vr 0), some (vi c)]) (S' := [vi 5, vi 3, vr 6]) k216_5 rfl rfl ?_
  refine ev_s1 (L' := [some (vr 0), some (vi c)]) (S' := [vi c, vi 5, vi 3, vr 6]) k216_6 rfl rfl ?_
  refine ev_s1 (L' := [some (vr 0), some (vi c)]) (S' := [vi (5 * c), vi 3, vr 6]) k216_7 rfl rfl ?_
  refine ev_s1 (L' := [some (vr 0), some (vi c)]) (S' := [vi (3 + (5 * c)), vr 6]) k216_8 rfl rfl ?_
  refine ev_iald k216_9 (by decide) (rfl) (by omega) (by omega) ?_
  have rr1 := hJ.1 6 (3 + (5 * c))
  refine ev_ireturn k216_10 ?_
  exact hQ

set_option maxHeartbeats 1000000 in
theorem m_kind {d : Nat} {J : Nat → Int → Int} {Q : Option jV → jS → Prop} (hJ : RZ J) (hw : OKW (J 6)) {c : Int} (ca : -2147483648 ≤ c) (cb : c < 2147483648) (hd : 2 ≤ d) (hB : ¬ (0 ≤ c ∧ c < J 6 1) → Q (some (vi (-1000001))) (SM J)) (hQ : (0 ≤ c ∧ c < J 6 1) → Q (some (vi (J 6 (3 + 5 * c)))) (SM J)) : Cl d 217 [vr 0, vi c] (SM J) Q := by
  have w0 := hw.1
  have w1 := hw.2.1
  have w2 := hw.2.2.1
  refine ⟨by rw [l217]; exact Nat.le_of_ble_eq_true rfl, ?_⟩
  rw [l217]
  show Ev d 217 0 [some (vr 0), some (vi c)] [] (SM J) Q
  refine ev_s1 (L' := [some (vr 0), some (vi c)]) (S' := [vr 0]) k217_0 rfl rfl ?_
  refine ev_s1 (L' := [some (vr 0), some (vi c)]) (S' := [vi c, vr 0]) k217_1 rfl rfl ?_
  refine ev_virt (a := [vi c]) (S' := []) k217_2 rfl (Nat.le_of_ble_eq_true rfl) (by decide) (rfl) (by omega) ?_
  refine m_isChair hJ (c := c) (by omega) (by omega) (by omega) (by omega) (fun h1 => ?_) (fun h1 => ?_)
  · show Ev d 217 5 [some (vr 0), some (vi c)] [vi 1] (SM J) Q
    refine ev_z_eq (t := 16) k217_5 rfl (by omega) (by omega) (fun h => absurd h (by decide)) (fun _ => ?_)
    refine ev_s1 (L' := [some (vr 0), some (vi c)]) (S' := [vr 0]) k217_8 rfl rfl ?_
    refine ev_s1 (L' := [some (vr 0), some (vi c)]) (S' := [vi c, vr 0]) k217_9 rfl rfl ?_
    refine ev_virt (a := [vi c]) (S' := []) k217_10 rfl (Nat.le_of_ble_eq_true rfl) (by decide) (rfl) (by omega) ?_
    refine m_kindIn hJ (c := c) (by omega) (by omega) (?_)
    have kr10 := (hw.2.2.2.1 c (by omega) (by omega)).1
    show Ev d 217 13 [some (vr 0), some (vi c)] [vi (J 6 (3 + (5 * c)))] (SM J) Q
    refine ev_goto (t := 18) k217_13 rfl ?_
    refine ev_ireturn k217_18 ?_
    exact hQ (by omega)
  · show Ev d 217 5 [some (vr 0), some (vi c)] [vi 0] (SM J) Q
    refine ev_z_eq (t := 16) k217_5 rfl (by omega) (by omega) (fun _ => ?_) (fun h => absurd h (by decide))
    refine ev_ldc k217_16 ?_
    refine ev_ireturn k217_18 ?_
    exact hB (by omega)

set_option maxHeartbeats 1000000 in
theorem m_as {d : Nat} {J : Nat → Int → Int} {Q : Option jV → jS → Prop} (hJ : RZ J) (hw : OKW (J 6)) {c k : Int} (ca : -2147483648 ≤ c) (cb : c < 2147483648) (ka : -2147483648 ≤ k) (kb : k < 2147483648) (hd : 2 ≤ d) (hB : ¬ ((0 ≤ c ∧ c < J 6 1) ∧ (0 ≤ k ∧ k ≤ 5)) → Q (some (vi (-1000001))) (SM J)) (hx3 : ((0 ≤ c ∧ c < J 6 1) ∧ (0 ≤ k ∧ k ≤ 5)) → ¬ (k = 0 ∨ k = J 6 (3 + 5 * c) ∨ (k = 1 ∧ J 6 (3 + 5 * c) < 4) ∨ (k = 4 ∧ J 6 (3 + 5 * c) = 5)) → ∀ J', SM4 J J' 3 → Q (some (vi (-1000010 - 3))) (SM J')) (hQ : ((0 ≤ c ∧ c < J 6 1) ∧ (0 ≤ k ∧ k ≤ 5)) → (k = 0 ∨ k = J 6 (3 + 5 * c) ∨ (k = 1 ∧ J 6 (3 + 5 * c) < 4) ∨ (k = 4 ∧ J 6 (3 + 5 * c) = 5)) → ∀ J', SM4 J J' 0 → Q (some (vi c)) (SM J')) : Cl d 218 [vr 0, vi c, vi k] (SM J) Q := by
  have w0 := hw.1
  have w1 := hw.2.1
  have w2 := hw.2.2.1
  refine ⟨by rw [l218]; exact Nat.le_of_ble_eq_true rfl, ?_⟩
  rw [l218]
  show Ev d 218 0 [some (vr 0), some (vi c), some (vi k), none, none] [] (SM J) Q
  refine ev_s1 (L' := [some (vr 0), some (vi c), some (vi k), none, none]) (S' := [vr 0]) k218_0 rfl rfl ?_
  refine ev_s1 (L' := [some (vr 0), some (vi c), some (vi k), none, none]) (S' := [vi c, vr 0]) k218_1 rfl rfl ?_
  refine ev_virt (a := [vi c]) (S' := []) k218_2 rfl (Nat.le_of_ble_eq_true rfl) (by decide) (rfl) (by omega) ?_
  refine m_isChair hJ (c := c) (by omega) (by omega) (by omega) (by omega) (fun h1 => ?_) (fun h1 => ?_)
  · show Ev d 218 5 [some (vr 0), some (vi c), some (vi k), none, none] [vi 1] (SM J) Q
    refine ev_z_eq (t := 17) k218_5 rfl (by omega) (by omega) (fun h => absurd h (by decide)) (fun _ => ?_)
    refine ev_s1 (L' := [some (vr 0), some (vi c), some (vi k), none, none]) (S' := [vi k]) k218_8 rfl rfl ?_
    refine ev_s1 (L' := [some (vr 0), some (vi c), some (vi k), none, none]) (S' := [vi 0, vi k]) k218_9 rfl rfl ?_
    refine ev_s1 (L' := [some (vr 0), some (vi c), some (vi k), none, none]) (S' := [vi 5, vi 0, vi k]) k218_10 rfl rfl ?_
    refine ev_static (a := [vi k, vi 0, vi 5]) (S' := []) k218_11 rfl (Nat.le_of_ble_eq_true rfl) (by omega) ?_
    refine m_in (v := k) (lo := 0) (hi := 5) (by omega) (by omega) (by omega) (by omega) (by omega) (by omega) (fun h2 => ?_) (fun h2 => ?_)
    · show Ev d 218 14 [some (vr 0), some (vi c), some (vi k), none, none] [vi 1] (SM J) Q
      refine ev_z_ne (t := 20) k218_14 rfl (by omega) (by omega) (fun _ => ?_) (fun h => absurd h (by decide))
      refine ev_s1 (L' := [some (vr 0), some (vi c), some (vi k), none, none]) (S' := [vr 0]) k218_20 rfl rfl ?_
      refine ev_s1 (L' := [some (vr 0), some (vi c), some (vi k), none, none]) (S' := [vi c, vr 0]) k218_21 rfl rfl ?_
      refine ev_virt (a := [vi c]) (S' := []) k218_22 rfl (Nat.le_of_ble_eq_true rfl) (by decide) (rfl) (by omega) ?_
      refine m_kindIn hJ (c := c) (by omega) (by omega) (?_)
      have kr22 := (hw.2.2.2.1 c (by omega) (by omega)).1
      show Ev d 218 25 [some (vr 0), some (vi c), some (vi k), none, none] [vi (J 6 (3 + (5 * c)))] (SM J) Q
      refine ev_s1 (L' := [some (vr 0), some (vi c), some (vi k), some (vi (J 6 (3 + (5 * c)))), none]) (S' := []) k218_25 rfl rfl ?_
      refine ev_s1 (L' := [some (vr 0), some (vi c), some (vi k), some (vi (J 6 (3 + (5 * c)))), none]) (S' := [vi k]) k218_26 rfl rfl ?_
      refine ev_z_eq (t := 55) k218_27 rfl (by omega) (by omega) (fun h3 => ?_) (fun h3 => ?_)
      · refine ev_s1 (L' := [some (vr 0), some (vi c), some (vi k), some (vi (J 6 (3 + (5 * c)))), none]) (S' := [vi 1]) k218_55 rfl rfl ?_
        refine ev_goto (t := 60) k218_56 rfl ?_
        refine ev_s1 (L' := [some (vr 0), some (vi c), some (vi k), some (vi (J 6 (3 + (5 * c)))), some (vi 1)]) (S' := []) k218_60 rfl rfl ?_
        refine ev_s1 (L' := [some (vr 0), some (vi c), some (vi k), some (vi (J 6 (3 + (5 * c)))), some (vi 1)]) (S' := [vi 1]) k218_62 rfl rfl ?_
        refine ev_z_eq (t := 75) k218_64 rfl (by omega) (by omega) (fun h => absurd h (by decide)) (fun _ => ?_)
        refine ev_s1 (L' := [some (vr 0), some (vi c), some (vi k), some (vi (J 6 (3 + (5 * c)))), some (vi 1)]) (S' := [vr 0]) k218_67 rfl rfl ?_
        refine ev_s1 (L' := [some (vr 0), some (vi c), some (vi k), some (vi (J 6 (3 + (5 * c)))), some (vi 1)]) (S' := [vi c, vr 0]) k218_68 rfl rfl ?_
        refine ev_virt (a := [vi c]) (S' := []) k218_69 rfl (Nat.le_of_ble_eq_true rfl) (by decide) (rfl) (by omega) ?_
        refine m_well hJ (v := c) (fun J4 hJ4 e4 q4 g4 => ?_)
        show Ev d 218 72 [some (vr 0), some (vi c), some (vi k), some (vi (J 6 (3 + (5 * c)))), some (vi 1)] [vi c] (SM J4) Q
        refine ev_goto (t := 80) k218_72 rfl ?_
        refine ev_ireturn k218_80 ?_
        exact hQ (by omega) (by omega) _ ⟨hJ4, e4, fun b hb => (q4 b hb).trans (rfl), fun a a0 a4 a7 a8 a12 a13 => (g4 a (by assumption))⟩
      · refine ev_s1 (L' := [some (vr 0), some (vi c), some (vi k), some (vi (J 6 (3 + (5 * c)))), none]) (S' := [vi k]) k218_30 rfl rfl ?_
        refine ev_s1 (L' := [some (vr 0), some (vi c), some (vi k), some (vi (J 6 (3 + (5 * c)))), none]) (S' := [vi (J 6 (3 + (5 * c))), vi k]) k218_31 rfl rfl ?_
        refine ev_c_eq (t := 55) k218_32 rfl (by omega) (by omega) (by omega) (by omega) (fun h5 => ?_) (fun h5 => ?_)
        · refine ev_s1 (L' := [some (vr 0), some (vi c), some (vi k), some (vi (J 6 (3 + (5 * c)))), none]) (S' := [vi 1]) k218_55 rfl rfl ?_
          refine ev_goto (t := 60) k218_56 rfl ?_
          refine ev_s1 (L' := [some (vr 0), some (vi c), some (vi k), some (vi (J 6 (3 + (5 * c)))), some (vi 1)]) (S' := []) k218_60 rfl rfl ?_
          refine ev_s1 (L' := [some (vr 0), some (vi c), some (vi k), some (vi (J 6 (3 + (5 * c)))), some (vi 1)]) (S' := [vi 1]) k218_62 rfl rfl ?_
          refine ev_z_eq (t := 75) k218_64 rfl (by omega) (by omega) (fun h => absurd h (by decide)) (fun _ => ?_)
          refine ev_s1 (L' := [some (vr 0), some (vi c), some (vi k), some (vi (J 6 (3 + (5 * c)))), some (vi 1)]) (S' := [vr 0]) k218_67 rfl rfl ?_
          refine ev_s1 (L' := [some (vr 0), some (vi c), some (vi k), some (vi (J 6 (3 + (5 * c)))), some (vi 1)]) (S' := [vi c, vr 0]) k218_68 rfl rfl ?_
          refine ev_virt (a := [vi c]) (S' := []) k218_69 rfl (Nat.le_of_ble_eq_true rfl) (by decide) (rfl) (by omega) ?_
          refine m_well hJ (v := c) (fun J6 hJ6 e6 q6 g6 => ?_)
          show Ev d 218 72 [some (vr 0), some (vi c), some (vi k), some (vi (J 6 (3 + (5 * c)))), some (vi 1)] [vi c] (SM J6) Q
          refine ev_goto (t := 80) k218_72 rfl ?_
          refine ev_ireturn k218_80 ?_
          exact hQ (by omega) (by omega) _ ⟨hJ6, e6, fun b hb => (q6 b hb).trans (rfl), fun a a0 a4 a7 a8 a12 a13 => (g6 a (by assumption))⟩
        · refine ev_s1 (L' := [some (vr 0), some (vi c), some (vi k), some (vi (J 6 (3 + (5 * c)))), none]) (S' := [vi k]) k218_35 rfl rfl ?_
          refine ev_s1 (L' := [some (vr 0), some (vi c), some (vi k), some (vi (J 6 (3 + (5 * c)))), none]) (S' := [vi 1, vi k]) k218_36 rfl rfl ?_
          refine ev_c_ne (t := 45) k218_37 rfl (by omega) (by omega) (by omega) (by omega) (fun h7 => ?_) (fun h7 => ?_)
          · refine ev_s1 (L' := [some (vr 0), some (vi c), some (vi k), some (vi (J 6 (3 + (5 * c)))), none]) (S' := [vi k]) k218_45 rfl rfl ?_
            refine ev_s1 (L' := [some (vr 0), some (vi c), some (vi k), some (vi (J 6 (3 + (5 * c)))), none]) (S' := [vi 4, vi k]) k218_46 rfl rfl ?_
            refine ev_c_ne (t := 59) k218_47 rfl (by omega) (by omega) (by omega) (by omega) (fun h8 => ?_) (fun h8 => ?_)
            · refine ev_s1 (L' := [some (vr 0), some (vi c), some (vi k), some (vi (J 6 (3 + (5 * c)))), none]) (S' := [vi 0]) k218_59 rfl rfl ?_
              refine ev_s1 (L' := [some (vr 0), some (vi c), some (vi k), some (vi (J 6 (3 + (5 * c)))), some (vi 0)]) (S' := []) k218_60 rfl rfl ?_
              refine ev_s1 (L' := [some (vr 0), some (vi c), some (vi k), some (vi (J 6 (3 + (5 * c)))), some (vi 0)]) (S' := [vi 0]) k218_62 rfl rfl ?_
              refine ev_z_eq (t := 75) k218_64 rfl (by omega) (by omega) (fun _ => ?_) (fun h => absurd h (by decide))
              refine ev_s1 (L' := [some (vr 0), some (vi c), some (vi k), some (vi (J 6 (3 + (5 * c)))), some (vi 0)]) (S' := [vr 0]) k218_75 rfl rfl ?_
              refine ev_s1 (L' := [some (vr 0), some (vi c), some (vi k), some (vi (J 6 (3 + (5 * c)))), some (vi 0)]) (S' := [vi 3, vr 0]) k218_76 rfl rfl ?_
              refine ev_virt (a := [vi 3]) (S' := []) k218_77 rfl (Nat.le_of_ble_eq_true rfl) (by decide) (rfl) (by omega) ?_
              refine m_found hJ (v := 3) (by omega) (by omega) (fun J9 hJ9 e9 q9 g9 => ?_)
              show Ev d 218 80 [some (vr 0), some (vi c), some (vi k), some (vi (J 6 (3 + (5 * c)))), some (vi 0)] [vi (-1000010 - 3)] (SM J9) Q
              refine ev_ireturn k218_80 ?_
              exact hx3 (by omega) (by omega) _ ⟨hJ9, e9, fun b hb => (q9 b hb).trans (rfl), fun a a0 a4 a7 a8 a12 a13 => (g9 a (by assumption))⟩
            · refine ev_s1 (L' := [some (vr 0), some (vi c), some (vi k), some (vi (J 6 (3 + (5 * c)))), none]) (S' := [vi (J 6 (3 + (5 * c)))]) k218_50 rfl rfl ?_
              refine ev_s1 (L' := [some (vr 0), some (vi c), some (vi k), some (vi (J 6 (3 + (5 * c)))), none]) (S' := [vi 5, vi (J 6 (3 + (5 * c)))]) k218_51 rfl rfl ?_
              refine ev_c_ne (t := 59) k218_52 rfl (by omega) (by omega) (by omega) (by omega) (fun h10 => ?_) (fun h10 => ?_)
              · refine ev_s1 (L' := [some (vr 0), some (vi c), some (vi k), some (vi (J 6 (3 + (5 * c)))), none]) (S' := [vi 0]) k218_59 rfl rfl ?_
                refine ev_s1 (L' := [some (vr 0), some (vi c), some (vi k), some (vi (J 6 (3 + (5 * c)))), some (vi 0)]) (S' := []) k218_60 rfl rfl ?_
                refine ev_s1 (L' := [some (vr 0), some (vi c), some (vi k), some (vi (J 6 (3 + (5 * c)))), some (vi 0)]) (S' := [vi 0]) k218_62 rfl rfl ?_
                refine ev_z_eq (t := 75) k218_64 rfl (by omega) (by omega) (fun _ => ?_) (fun h => absurd h (by decide))
                refine ev_s1 (L' := [some (vr 0), some (vi c), some (vi k), some (vi (J 6 (3 + (5 * c)))), some (vi 0)]) (S' := [vr 0]) k218_75 rfl rfl ?_
                refine ev_s1 (L' := [some (vr 0), some (vi c), some (vi k), some (vi (J 6 (3 + (5 * c)))), some (vi 0)]) (S' := [vi 3, vr 0]) k218_76 rfl rfl ?_
                refine ev_virt (a := [vi 3]) (S' := []) k218_77 rfl (Nat.le_of_ble_eq_true rfl) (by decide) (rfl) (by omega) ?_
                refine m_found hJ (v := 3) (by omega) (by omega) (fun J11 hJ11 e11 q11 g11 => ?_)
                show Ev d 218 80 [some (vr 0), some (vi c), some (vi k), some (vi (J 6 (3 + (5 * c)))), some (vi 0)] [vi (-1000010 - 3)] (SM J11) Q
                refine ev_ireturn k218_80 ?_
                exact hx3 (by omega) (by omega) _ ⟨hJ11, e11, fun b hb => (q11 b hb).trans (rfl), fun a a0 a4 a7 a8 a12 a13 => (g11 a (by assumption))⟩
              · refine ev_s1 (L' := [some (vr 0), some (vi c), some (vi k), some (vi (J 6 (3 + (5 * c)))), none]) (S' := [vi 1]) k218_55 rfl rfl ?_
                refine ev_goto (t := 60) k218_56 rfl ?_
                refine ev_s1 (L' := [some (vr 0), some (vi c), some (vi k), some (vi (J 6 (3 + (5 * c)))), some (vi 1)]) (S' := []) k218_60 rfl rfl ?_
                refine ev_s1 (L' := [some (vr 0), some (vi c), some (vi k), some (vi (J 6 (3 + (5 * c)))), some (vi 1)]) (S' := [vi 1]) k218_62 rfl rfl ?_
                refine ev_z_eq (t := 75) k218_64 rfl (by omega) (by omega) (fun h => absurd h (by decide)) (fun _ => ?_)
                refine ev_s1 (L' := [some (vr 0), some (vi c), some (vi k), some (vi (J 6 (3 + (5 * c)))), some (vi 1)]) (S' := [vr 0]) k218_67 rfl rfl ?_
                refine ev_s1 (L' := [some (vr 0), some (vi c), some (vi k), some (vi (J 6 (3 + (5 * c)))), some (vi 1)]) (S' := [vi c, vr 0]) k218_68 rfl rfl ?_
                refine ev_virt (a := [vi c]) (S' := []) k218_69 rfl (Nat.le_of_ble_eq_true rfl) (by decide) (rfl) (by omega) ?_
                refine m_well hJ (v := c) (fun J12 hJ12 e12 q12 g12 => ?_)
                show Ev d 218 72 [some (vr 0), some (vi c), some (vi k), some (vi (J 6 (3 + (5 * c)))), some (vi 1)] [vi c] (SM J12) Q
                refine ev_goto (t := 80) k218_72 rfl ?_
                refine ev_ireturn k218_80 ?_
                exact hQ (by omega) (by omega) _ ⟨hJ12, e12, fun b hb => (q12 b hb).trans (rfl), fun a a0 a4 a7 a8 a12 a13 => (g12 a (by assumption))⟩
          · refine ev_s1 (L' := [some (vr 0), some (vi c), some (vi k), some (vi (J 6 (3 + (5 * c)))), none]) (S' := [vi (J 6 (3 + (5 * c)))]) k218_40 rfl rfl ?_
            refine ev_s1 (L' := [some (vr 0), some (vi c), some (vi k), some (vi (J 6 (3 + (5 * c)))), none]) (S' := [vi 4, vi (J 6 (3 + (5 * c)))]) k218_41 rfl rfl ?_
            refine ev_c_lt (t := 55) k218_42 rfl (by omega) (by omega) (by omega) (by omega) (fun h13 => ?_) (fun h13 => ?_)
            · refine ev_s1 (L' := [some (vr 0), some (vi c), some (vi k), some (vi (J 6 (3 + (5 * c)))), none]) (S' := [vi 1]) k218_55 rfl rfl ?_
              refine ev_goto (t := 60) k218_56 rfl ?_
              refine ev_s1 (L' := [some (vr 0), some (vi c), some (vi k), some (vi (J 6 (3 + (5 * c)))), some (vi 1)]) (S' := []) k218_60 rfl rfl ?_
              refine ev_s1 (L' := [some (vr 0), some (vi c), some (vi k), some (vi (J 6 (3 + (5 * c)))), some (vi 1)]) (S' := [vi 1]) k218_62 rfl rfl ?_
              refine ev_z_eq (t := 75) k218_64 rfl (by omega) (by omega) (fun h => absurd h (by decide)) (fun _ => ?_)
              refine ev_s1 (L' := [some (vr 0), some (vi c), some (vi k), some (vi (J 6 (3 + (5 * c)))), some (vi 1)]) (S' := [vr 0]) k218_67 rfl rfl ?_
              refine ev_s1 (L' := [some (vr 0), some (vi c), some (vi k), some (vi (J 6 (3 + (5 * c)))), some (vi 1)]) (S' := [vi c, vr 0]) k218_68 rfl rfl ?_
              refine ev_virt (a := [vi c]) (S' := []) k218_69 rfl (Nat.le_of_ble_eq_true rfl) (by decide) (rfl) (by omega) ?_
              refine m_well hJ (v := c) (fun J14 hJ14 e14 q14 g14 => ?_)
              show Ev d 218 72 [some (vr 0), some (vi c), some (vi k), some (vi (J 6 (3 + (5 * c)))), some (vi 1)] [vi c] (SM J14) Q
              refine ev_goto (t := 80) k218_72 rfl ?_
              refine ev_ireturn k218_80 ?_
              exact hQ (by omega) (by omega) _ ⟨hJ14, e14, fun b hb => (q14 b hb).trans (rfl), fun a a0 a4 a7 a8 a12 a13 => (g14 a (by assumption))⟩
            · refine ev_s1 (L' := [some (vr 0), some (vi c), some (vi k), some (vi (J 6 (3 + (5 * c)))), none]) (S' := [vi k]) k218_45 rfl rfl ?_
              refine ev_s1 (L' := [some (vr 0), some (vi c), some (vi k), some (vi (J 6 (3 + (5 * c)))), none]) (S' := [vi 4, vi k]) k218_46 rfl rfl ?_
              refine ev_c_ne (t := 59) k218_47 rfl (by omega) (by omega) (by omega) (by omega) (fun h15 => ?_) (fun h15 => ?_)
              · refine ev_s1 (L' := [some (vr 0), some (vi c), some (vi k), some (vi (J 6 (3 + (5 * c)))), none]) (S' := [vi 0]) k218_59 rfl rfl ?_
                refine ev_s1 (L' := [some (vr 0), some (vi c), some (vi k), some (vi (J 6 (3 + (5 * c)))), some (vi 0)]) (S' := []) k218_60 rfl rfl ?_
                refine ev_s1 (L' := [some (vr 0), some (vi c), some (vi k), some (vi (J 6 (3 + (5 * c)))), some (vi 0)]) (S' := [vi 0]) k218_62 rfl rfl ?_
                refine ev_z_eq (t := 75) k218_64 rfl (by omega) (by omega) (fun _ => ?_) (fun h => absurd h (by decide))
                refine ev_s1 (L' := [some (vr 0), some (vi c), some (vi k), some (vi (J 6 (3 + (5 * c)))), some (vi 0)]) (S' := [vr 0]) k218_75 rfl rfl ?_
                refine ev_s1 (L' := [some (vr 0), some (vi c), some (vi k), some (vi (J 6 (3 + (5 * c)))), some (vi 0)]) (S' := [vi 3, vr 0]) k218_76 rfl rfl ?_
                refine ev_virt (a := [vi 3]) (S' := []) k218_77 rfl (Nat.le_of_ble_eq_true rfl) (by decide) (rfl) (by omega) ?_
                refine m_found hJ (v := 3) (by omega) (by omega) (fun J16 hJ16 e16 q16 g16 => ?_)
                show Ev d 218 80 [some (vr 0), some (vi c), some (vi k), some (vi (J 6 (3 + (5 * c)))), some (vi 0)] [vi (-1000010 - 3)] (SM J16) Q
                refine ev_ireturn k218_80 ?_
                exact hx3 (by omega) (by omega) _ ⟨hJ16, e16, fun b hb => (q16 b hb).trans (rfl), fun a a0 a4 a7 a8 a12 a13 => (g16 a (by assumption))⟩
              · refine ev_s1 (L' := [some (vr 0), some (vi c), some (vi k), some (vi (J 6 (3 + (5 * c)))), none]) (S' := [vi (J 6 (3 + (5 * c)))]) k218_50 rfl rfl ?_
                refine ev_s1 (L' := [some (vr 0), some (vi c), some (vi k), some (vi (J 6 (3 + (5 * c)))), none]) (S' := [vi 5, vi (J 6 (3 + (5 * c)))]) k218_51 rfl rfl ?_
                refine ev_c_ne (t := 59) k218_52 rfl (by omega) (by omega) (by omega) (by omega) (fun h17 => ?_) (fun h17 => ?_)
                · refine ev_s1 (L' := [some (vr 0), some (vi c), some (vi k), some (vi (J 6 (3 + (5 * c)))), none]) (S' := [vi 0]) k218_59 rfl rfl ?_
                  refine ev_s1 (L' := [some (vr 0), some (vi c), some (vi k), some (vi (J 6 (3 + (5 * c)))), some (vi 0)]) (S' := []) k218_60 rfl rfl ?_
                  refine ev_s1 (L' := [some (vr 0), some (vi c), some (vi k), some (vi (J 6 (3 + (5 * c)))), some (vi 0)]) (S' := [vi 0]) k218_62 rfl rfl ?_
                  refine ev_z_eq (t := 75) k218_64 rfl (by omega) (by omega) (fun _ => ?_) (fun h => absurd h (by decide))
                  refine ev_s1 (L' := [some (vr 0), some (vi c), some (vi k), some (vi (J 6 (3 + (5 * c)))), some (vi 0)]) (S' := [vr 0]) k218_75 rfl rfl ?_
                  refine ev_s1 (L' := [some (vr 0), some (vi c), some (vi k), some (vi (J 6 (3 + (5 * c)))), some (vi 0)]) (S' := [vi 3, vr 0]) k218_76 rfl rfl ?_
                  refine ev_virt (a := [vi 3]) (S' := []) k218_77 rfl (Nat.le_of_ble_eq_true rfl) (by decide) (rfl) (by omega) ?_
                  refine m_found hJ (v := 3) (by omega) (by omega) (fun J18 hJ18 e18 q18 g18 => ?_)
                  show Ev d 218 80 [some (vr 0), some (vi c), some (vi k), some (vi (J 6 (3 + (5 * c)))), some (vi 0)] [vi (-1000010 - 3)] (SM J18) Q
                  refine ev_ireturn k218_80 ?_
                  exact hx3 (by omega) (by omega) _ ⟨hJ18, e18, fun b hb => (q18 b hb).trans (rfl), fun a a0 a4 a7 a8 a12 a13 => (g18 a (by assumption))⟩
                · refine ev_s1 (L' := [some (vr 0), some (vi c), some (vi k), some (vi (J 6 (3 + (5 * c)))), none]) (S' := [vi 1]) k218_55 rfl rfl ?_
                  refine ev_goto (t := 60) k218_56 rfl ?_
                  refine ev_s1 (L' := [some (vr 0), some (vi c), some (vi k), some (vi (J 6 (3 + (5 * c)))), some (vi 1)]) (S' := []) k218_60 rfl rfl ?_
                  refine ev_s1 (L' := [some (vr 0), some (vi c), some (vi k), some (vi (J 6 (3 + (5 * c)))), some (vi 1)]) (S' := [vi 1]) k218_62 rfl rfl ?_
                  refine ev_z_eq (t := 75) k218_64 rfl (by omega) (by omega) (fun h => absurd h (by decide)) (fun _ => ?_)
                  refine ev_s1 (L' := [some (vr 0), some (vi c), some (vi k), some (vi (J 6 (3 + (5 * c)))), some (vi 1)]) (S' := [vr 0]) k218_67 rfl rfl ?_
                  refine ev_s1 (L' := [some (vr 0), some (vi c), some (vi k), some (vi (J 6 (3 + (5 * c)))), some (vi 1)]) (S' := [vi c, vr 0]) k218_68 rfl rfl ?_
                  refine ev_virt (a := [vi c]) (S' := []) k218_69 rfl (Nat.le_of_ble_eq_true rfl) (by decide) (rfl) (by omega) ?_
                  refine m_well hJ (v := c) (fun J19 hJ19 e19 q19 g19 => ?_)
                  show Ev d 218 72 [some (vr 0), some (vi c), some (vi k), some (vi (J 6 (3 + (5 * c)))), some (vi 1)] [vi c] (SM J19) Q
                  refine ev_goto (t := 80) k218_72 rfl ?_
                  refine ev_ireturn k218_80 ?_
                  exact hQ (by omega) (by omega) _ ⟨hJ19, e19, fun b hb => (q19 b hb).trans (rfl), fun a a0 a4 a7 a8 a12 a13 => (g19 a (by assumption))⟩
    · show Ev d 218 14 [some (vr 0), some (vi c), some (vi k), none, none] [vi 0] (SM J) Q
      refine ev_z_ne (t := 20) k218_14 rfl (by omega) (by omega) (fun h => absurd h (by decide)) (fun _ => ?_)
      refine ev_ldc k218_17 ?_
      refine ev_ireturn k218_19 ?_
      exact hB (by omega)
  · show Ev d 218 5 [some (vr 0), some (vi c), some (vi k), none, none] [vi 0] (SM J) Q
    refine ev_z_eq (t := 17) k218_5 rfl (by omega) (by omega) (fun _ => ?_) (fun h => absurd h (by decide))
    refine ev_ldc k218_17 ?_
    refine ev_ireturn k218_19 ?_
    exact hB (by omega)

set_option maxHeartbeats 1000000 in
theorem m_begins {d : Nat} {J : Nat → Int → Int} {Q : Option jV → jS → Prop} (hJ : RZ J) {b : Int} (b0 : 0 ≤ b) (b1 : b < 100) {l : List Int} (hT : TRo (J 0 23) (J 14) l) (hl : l.length < 16) (hQ : ∀ J', ASM J J' (l ++ [b]) → Q none (SM J')) : Cl d 219 [vr 0, vi b] (SM J) Q := by
  have hlen := hT.1
  refine ⟨by rw [l219]; exact Nat.le_of_ble_eq_true rfl, ?_⟩
  rw [l219]
  show Ev d 219 0 [some (vr 0), some (vi b)] [] (SM J) Q
  refine ev_s1 (L' := [some (vr 0), some (vi b)]) (S' := [vr 0]) k219_0 rfl rfl ?_
  refine ev_getI k219_1 (by decide) (rfl) ?_
  show Ev d 219 4 [some (vr 0), some (vi b)] [vi (J 0 23)] (SM J) Q
  have rr1 := hJ.1 0 23
  refine ev_s1 (L' := [some (vr 0), some (vi b)]) (S' := [vi 16, vi (J 0 23)]) k219_4 rfl rfl ?_
  refine ev_c_ge (t := 29) k219_6 rfl (by omega) (by omega) (by omega) (by omega) (fun h2 => ?_) (fun h2 => ?_)
  · exfalso; omega
  · refine ev_s1 (L' := [some (vr 0), some (vi b)]) (S' := [vr 0]) k219_9 rfl rfl ?_
    refine ev_getR k219_10 (by decide) (rfl) (y_0_22) ?_
    refine ev_s1 (L' := [some (vr 0), some (vi b)]) (S' := [vr 0, vr 14]) k219_13 rfl rfl ?_
    refine ev_getI k219_14 (by decide) (rfl) ?_
    show Ev d 219 17 [some (vr 0), some (vi b)] [vi (J 0 23), vr 14] (SM J) Q
    have rr3 := hJ.1 0 23
    refine ev_s1 (L' := [some (vr 0), some (vi b)]) (S' := [vi b, vi (J 0 23), vr 14]) k219_17 rfl rfl ?_
    refine ev_iast k219_18 (by decide) (rfl) (by omega) (by omega) ?_
    show Ev d 219 19 [some (vr 0), some (vi b)] [] (SM (up J 14 (J 0 23) b)) Q
    have hJ4 := rz_up hJ (k := 14) (j := J 0 23) (z := b) (by omega) (by omega) (by omega)
    have g4 : ∀ aa, aa ≠ 14 → up J 14 (J 0 23) b aa = J aa := fun aa h => upf h
    have q4 : ∀ bb, bb ≠ J 0 23 → up J 14 (J 0 23) b 14 bb = J 14 bb := fun bb h => upN (Or.inr h)
    have e4 : up J 14 (J 0 23) b 14 (J 0 23) = b := upE rfl rfl
    generalize up J 14 (J 0 23) b = J4 at hJ4 g4 q4 e4 ⊢
    refine ev_s1 (L' := [some (vr 0), some (vi b)]) (S' := [vr 0]) k219_19 rfl rfl ?_
    refine ev_s1 (L' := [some (vr 0), some (vi b)]) (S' := [vr 0, vr 0]) k219_20 rfl rfl ?_
    refine ev_getI k219_21 (by decide) (rfl) ?_
    show Ev d 219 24 [some (vr 0), some (vi b)] [vi (J4 0 23), vr 0] (SM J4) Q
    have rr5 := hJ4.1 0 23
    rw [g4 0 (by decide)]
    rw [g4 0 (by decide)] at rr5
    refine ev_s1 (L' := [some (vr 0), some (vi b)]) (S' := [vi 1, vi (J 0 23), vr 0]) k219_24 rfl rfl ?_
    refine ev_s1 (L' := [some (vr 0), some (vi b)]) (S' := [vi ((J 0 23) + 1), vr 0]) k219_25 rfl rfl ?_
    refine ev_putI k219_26 (by decide) (rfl) ?_
    show Ev d 219 29 [some (vr 0), some (vi b)] [] (SM (up J4 0 23 ((J 0 23) + 1))) Q
    have hJ6 := rz_up hJ4 (k := 0) (j := 23) (z := (J 0 23) + 1) (by omega) (by omega) (by omega)
    have g6 : ∀ aa, aa ≠ 0 → up J4 0 23 ((J 0 23) + 1) aa = J4 aa := fun aa h => upf h
    have q6 : ∀ bb, bb ≠ 23 → up J4 0 23 ((J 0 23) + 1) 0 bb = J4 0 bb := fun bb h => upN (Or.inr h)
    have e6 : up J4 0 23 ((J 0 23) + 1) 0 23 = (J 0 23) + 1 := upE rfl rfl
    generalize up J4 0 23 ((J 0 23) + 1) = J6 at hJ6 g6 q6 e6 ⊢
    refine ev_return k219_29 ?_
    exact hQ _ ⟨hJ6, tr_push hT e6 (by rw [g6 14 (by decide)]; exact e4) (fun j hj => by rw [g6 14 (by decide)]; exact q4 j hj), fun b hb => ((q6 b hb).trans (congrFun (g4 0 (by decide)) b)), fun a ha => ((g6 a (by omega)).trans (g4 a (by omega)))⟩

set_option maxHeartbeats 1000000 in
theorem m_plainMark {d : Nat} {J : Nat → Int → Int} {Q : Option jV → jS → Prop} (hJ : RZ J) (hw : OKW (J 6)) {c : Int} (c0 : 0 ≤ c) (c1 : c < J 6 1) {l : List Int} (hT : TRo (J 0 23) (J 14) l) (hl : l.length < 9) (hk3 : J 6 (3 + 5 * c) ≤ 3) (hd : 1 ≤ d) (hQ : ∀ J', ASM J J' (l ++ mrkP (J 6 (3 + 5 * c))) → Q (some (vi (mrkV (J 6 (3 + 5 * c)) (J 6 (3 + 5 * c + 1)) (J 6 (3 + 5 * c + 2))))) (SM J')) : Cl d 220 [vr 0, vi c] (SM J) Q := by
  have w0 := hw.1
  have w1 := hw.2.1
  have w2 := hw.2.2.1
  obtain ⟨⟨ck0, ck1⟩, ⟨cm0, cm1⟩, ⟨cs0, cs1⟩, ⟨ce0, ce1⟩, -⟩ := hw.2.2.2.1 c c0 c1
  refine ⟨by rw [l220]; exact Nat.le_of_ble_eq_true rfl, ?_⟩
  rw [l220]
  show Ev d 220 0 [some (vr 0), some (vi c), none, none] [] (SM J) Q
  refine ev_s1 (L' := [some (vr 0), some (vi c), none, none]) (S' := [vr 0]) k220_0 rfl rfl ?_
  refine ev_s1 (L' := [some (vr 0), some (vi c), none, none]) (S' := [vi c, vr 0]) k220_1 rfl rfl ?_
  refine ev_virt (a := [vi c]) (S' := []) k220_2 rfl (Nat.le_of_ble_eq_true rfl) (by decide) (rfl) (by omega) ?_
  refine m_kindIn hJ (c := c) (by omega) (by omega) (?_)
  have kr2 := (hw.2.2.2.1 c (by omega) (by omega)).1
  show Ev d 220 5 [some (vr 0), some (vi c), none, none] [vi (J 6 (3 + (5 * c)))] (SM J) Q
  refine ev_s1 (L' := [some (vr 0), some (vi c), some (vi (J 6 (3 + (5 * c)))), none]) (S' := []) k220_5 rfl rfl ?_
  refine ev_s1 (L' := [some (vr 0), some (vi c), some (vi (J 6 (3 + (5 * c)))), none]) (S' := [vi (J 6 (3 + (5 * c)))]) k220_6 rfl rfl ?_
  refine ev_s1 (L' := [some (vr 0), some (vi c), some (vi (J 6 (3 + (5 * c)))), none]) (S' := [vi 1, vi (J 6 (3 + (5 * c)))]) k220_7 rfl rfl ?_
  refine ev_c_eq (t := 27) k220_8 rfl (by omega) (by omega) (by omega) (by omega) (fun h1 => ?_) (fun h1 => ?_)
  · refine ev_s1 (L' := [some (vr 0), some (vi c), some (vi (J 6 (3 + (5 * c)))), none]) (S' := [vr 0]) k220_27 rfl rfl ?_
    refine ev_s1 (L' := [some (vr 0), some (vi c), some (vi (J 6 (3 + (5 * c)))), none]) (S' := [vi 21, vr 0]) k220_28 rfl rfl ?_
    refine ev_virt (a := [vi 21]) (S' := []) k220_30 rfl (Nat.le_of_ble_eq_true rfl) (by decide) (rfl) (by omega) ?_
    refine m_begins hJ (b := 21) (by decide) (by decide) hT (by first | omega | (simp only [List.length_append, List.length_cons, List.length_nil]; omega)) (fun J2 am2 => ?_)
    have hJ2 := am2.1
    have q2 := am2.2.2.1
    have f2 := am2.2.2.2
    show Ev d 220 33 [some (vr 0), some (vi c), some (vi (J 6 (3 + (5 * c)))), none] [] (SM J2) Q
    refine ev_s1 (L' := [some (vr 0), some (vi c), some (vi (J 6 (3 + (5 * c)))), none]) (S' := [vr 0]) k220_33 rfl rfl ?_
    refine ev_s1 (L' := [some (vr 0), some (vi c), some (vi (J 6 (3 + (5 * c)))), none]) (S' := [vi 20, vr 0]) k220_34 rfl rfl ?_
    refine ev_virt (a := [vi 20]) (S' := []) k220_36 rfl (Nat.le_of_ble_eq_true rfl) (by decide) (rfl) (by omega) ?_
    refine m_begins hJ2 (b := 20) (by decide) (by decide) am2.2.1 (by first | omega | (simp only [List.length_append, List.length_cons, List.length_nil]; omega)) (fun J3 am3 => ?_)
    have hJ3 := am3.1
    have q3 := am3.2.2.1
    have f3 := am3.2.2.2
    show Ev d 220 39 [some (vr 0), some (vi c), some (vi (J 6 (3 + (5 * c)))), none] [] (SM J3) Q
    refine ev_s1 (L' := [some (vr 0), some (vi c), some (vi (J 6 (3 + (5 * c)))), none]) (S' := [vr 0]) k220_39 rfl rfl ?_
    refine ev_getR k220_40 (by decide) (rfl) (y_0_13) ?_
    refine ev_s1 (L' := [some (vr 0), some (vi c), some (vi (J 6 (3 + (5 * c)))), none]) (S' := [vi 3, vr 6]) k220_43 rfl rfl ?_
    refine ev_s1 (L' := [some (vr 0), some (vi c), some (vi (J 6 (3 + (5 * c)))), none]) (S' := [vi 5, vi 3, vr 6]) k220_44 rfl rfl ?_
    refine ev_s1 (L' := [some (vr 0), some (vi c), some (vi (J 6 (3 + (5 * c)))), none]) (S' := [vi c, vi 5, vi 3, vr 6]) k220_45 rfl rfl ?_
    refine ev_s1 (L' := [some (vr 0), some (vi c), some (vi (J 6 (3 + (5 * c)))), none]) (S' := [vi (5 * c), vi 3, vr 6]) k220_46 rfl rfl ?_
    refine ev_s1 (L' := [some (vr 0), some (vi c), some (vi (J 6 (3 + (5 * c)))), none]) (S' := [vi (3 + (5 * c)), vr 6]) k220_47 rfl rfl ?_
    refine ev_s1 (L' := [some (vr 0), some (vi c), some (vi (J 6 (3 + (5 * c)))), none]) (S' := [vi 1, vi (3 + (5 * c)), vr 6]) k220_48 rfl rfl ?_
    refine ev_s1 (L' := [some (vr 0), some (vi c), some (vi (J 6 (3 + (5 * c)))), none]) (S' := [vi ((3 + (5 * c)) + 1), vr 6]) k220_49 rfl rfl ?_
    refine ev_iald k220_50 (by decide) (rfl) (by omega) (by omega) ?_
    have rr4 := hJ3.1 6 ((3 + (5 * c)) + 1)
    rw [f3 6 (by decide), f2 6 (by decide)]
    rw [f3 6 (by decide), f2 6 (by decide)] at rr4
    refine ev_s1 (L' := [some (vr 0), some (vi c), some (vi (J 6 (3 + (5 * c)))), none]) (S' := [vr 0, vi (J 6 ((3 + (5 * c)) + 1))]) k220_51 rfl rfl ?_
    refine ev_getR k220_52 (by decide) (rfl) (y_0_13) ?_
    refine ev_s1 (L' := [some (vr 0), some (vi c), some (vi (J 6 (3 + (5 * c)))), none]) (S' := [vi 3, vr 6, vi (J 6 ((3 + (5 * c)) + 1))]) k220_55 rfl rfl ?_
    refine ev_s1 (L' := [some (vr 0), some (vi c), some (vi (J 6 (3 + (5 * c)))), none]) (S' := [vi 5, vi 3, vr 6, vi (J 6 ((3 + (5 * c)) + 1))]) k220_56 rfl rfl ?_
    refine ev_s1 (L' := [some (vr 0), some (vi c), some (vi (J 6 (3 + (5 * c)))), none]) (S' := [vi c, vi 5, vi 3, vr 6, vi (J 6 ((3 + (5 * c)) + 1))]) k220_57 rfl rfl ?_
    refine ev_s1 (L' := [some (vr 0), some (vi c), some (vi (J 6 (3 + (5 * c)))), none]) (S' := [vi (5 * c), vi 3, vr 6, vi (J 6 ((3 + (5 * c)) + 1))]) k220_58 rfl rfl ?_
    refine ev_s1 (L' := [some (vr 0), some (vi c), some (vi (J 6 (3 + (5 * c)))), none]) (S' := [vi (3 + (5 * c)), vr 6, vi (J 6 ((3 + (5 * c)) + 1))]) k220_59 rfl rfl ?_
    refine ev_s1 (L' := [some (vr 0), some (vi c), some (vi (J 6 (3 + (5 * c)))), none]) (S' := [vi 2, vi (3 + (5 * c)), vr 6, vi (J 6 ((3 + (5 * c)) + 1))]) k220_60 rfl rfl ?_
    refine ev_s1 (L' := [some (vr 0), some (vi c), some (vi (J 6 (3 + (5 * c)))), none]) (S' := [vi ((3 + (5 * c)) + 2), vr 6, vi (J 6 ((3 + (5 * c)) + 1))]) k220_61 rfl rfl ?_
    refine ev_iald k220_62 (by decide) (rfl) (by omega) (by omega) ?_
    have rr5 := hJ3.1 6 ((3 + (5 * c)) + 2)
    rw [f3 6 (by decide), f2 6 (by decide)]
    rw [f3 6 (by decide), f2 6 (by decide)] at rr5
    refine ev_s1 (L' := [some (vr 0), some (vi c), some (vi (J 6 (3 + (5 * c)))), none]) (S' := [vi ((J 6 ((3 + (5 * c)) + 1)) + (J 6 ((3 + (5 * c)) + 2)))]) k220_63 rfl rfl ?_
    refine ev_s1 (L' := [some (vr 0), some (vi c), some (vi (J 6 (3 + (5 * c)))), some (vi ((J 6 ((3 + (5 * c)) + 1)) + (J 6 ((3 + (5 * c)) + 2))))]) (S' := []) k220_64 rfl rfl ?_
    refine ev_s1 (L' := [some (vr 0), some (vi c), some (vi (J 6 (3 + (5 * c)))), some (vi ((J 6 ((3 + (5 * c)) + 1)) + (J 6 ((3 + (5 * c)) + 2))))]) (S' := [vi (J 6 (3 + (5 * c)))]) k220_65 rfl rfl ?_
    refine ev_s1 (L' := [some (vr 0), some (vi c), some (vi (J 6 (3 + (5 * c)))), some (vi ((J 6 ((3 + (5 * c)) + 1)) + (J 6 ((3 + (5 * c)) + 2))))]) (S' := [vi 2, vi (J 6 (3 + (5 * c)))]) k220_66 rfl rfl ?_
    refine ev_c_ne (t := 76) k220_67 rfl (by omega) (by omega) (by omega) (by omega) (fun h6 => ?_) (fun h6 => ?_)
    · refine ev_s1 (L' := [some (vr 0), some (vi c), some (vi (J 6 (3 + (5 * c)))), some (vi ((J 6 ((3 + (5 * c)) + 1)) + (J 6 ((3 + (5 * c)) + 2))))]) (S' := [vi (J 6 (3 + (5 * c)))]) k220_76 rfl rfl ?_
      refine ev_s1 (L' := [some (vr 0), some (vi c), some (vi (J 6 (3 + (5 * c)))), some (vi ((J 6 ((3 + (5 * c)) + 1)) + (J 6 ((3 + (5 * c)) + 2))))]) (S' := [vi 3, vi (J 6 (3 + (5 * c)))]) k220_77 rfl rfl ?_
      refine ev_c_ne (t := 89) k220_78 rfl (by omega) (by omega) (by omega) (by omega) (fun h7 => ?_) (fun h7 => ?_)
      · refine ev_s1 (L' := [some (vr 0), some (vi c), some (vi (J 6 (3 + (5 * c)))), some (vi ((J 6 ((3 + (5 * c)) + 1)) + (J 6 ((3 + (5 * c)) + 2))))]) (S' := [vi ((J 6 ((3 + (5 * c)) + 1)) + (J 6 ((3 + (5 * c)) + 2)))]) k220_89 rfl rfl ?_
        refine ev_ireturn k220_90 ?_
        have hk : J 6 (3 + 5 * c) = 1 := by omega
        have e1 : mrkP (J 6 (3 + 5 * c)) = [21, 20] := by rw [hk]; rfl
        have e2 : mrkV (J 6 (3 + 5 * c)) (J 6 (3 + 5 * c + 1)) (J 6 (3 + 5 * c + 2)) = (J 6 ((3 + (5 * c)) + 1)) + (J 6 ((3 + (5 * c)) + 2)) := by unfold mrkV; rw [if_neg (by omega), if_neg (by omega)]
        rw [e1, e2] at hQ
        exact hQ _ ⟨hJ3, (by have tt := am3.2.1; simpa only [List.append_assoc, List.cons_append, List.nil_append] using tt), fun b hb => ((q3 b hb).trans (q2 b hb)), fun a ha => ((f3 a (by omega)).trans (f2 a (by omega)))⟩
      · refine ev_s1 (L' := [some (vr 0), some (vi c), some (vi (J 6 (3 + (5 * c)))), some (vi ((J 6 ((3 + (5 * c)) + 1)) + (J 6 ((3 + (5 * c)) + 2))))]) (S' := [vi ((J 6 ((3 + (5 * c)) + 1)) + (J 6 ((3 + (5 * c)) + 2)))]) k220_81 rfl rfl ?_
        refine ev_s1 (L' := [some (vr 0), some (vi c), some (vi (J 6 (3 + (5 * c)))), some (vi ((J 6 ((3 + (5 * c)) + 1)) + (J 6 ((3 + (5 * c)) + 2))))]) (S' := [vi 1000, vi ((J 6 ((3 + (5 * c)) + 1)) + (J 6 ((3 + (5 * c)) + 2)))]) k220_82 rfl rfl ?_
        refine ev_s1 (L' := [some (vr 0), some (vi c), some (vi (J 6 (3 + (5 * c)))), some (vi ((J 6 ((3 + (5 * c)) + 1)) + (J 6 ((3 + (5 * c)) + 2))))]) (S' := [vi (((J 6 ((3 + (5 * c)) + 1)) + (J 6 ((3 + (5 * c)) + 2))) - 1000)]) k220_85 rfl rfl ?_
        refine ev_goto (t := 90) k220_86 rfl ?_
        refine ev_ireturn k220_90 ?_
        exfalso; omega
    · refine ev_s1 (L' := [some (vr 0), some (vi c), some (vi (J 6 (3 + (5 * c)))), some (vi ((J 6 ((3 + (5 * c)) + 1)) + (J 6 ((3 + (5 * c)) + 2))))]) (S' := [vi 2]) k220_70 rfl rfl ?_
      refine ev_s1 (L' := [some (vr 0), some (vi c), some (vi (J 6 (3 + (5 * c)))), some (vi ((J 6 ((3 + (5 * c)) + 1)) + (J 6 ((3 + (5 * c)) + 2))))]) (S' := [vi ((J 6 ((3 + (5 * c)) + 1)) + (J 6 ((3 + (5 * c)) + 2))), vi 2]) k220_71 rfl rfl ?_
      refine ev_s1 (L' := [some (vr 0), some (vi c), some (vi (J 6 (3 + (5 * c)))), some (vi ((J 6 ((3 + (5 * c)) + 1)) + (J 6 ((3 + (5 * c)) + 2))))]) (S' := [vi (2 * ((J 6 ((3 + (5 * c)) + 1)) + (J 6 ((3 + (5 * c)) + 2))))]) k220_72 rfl rfl ?_
      refine ev_goto (t := 90) k220_73 rfl ?_
      refine ev_ireturn k220_90 ?_
      exfalso; omega
  · refine ev_s1 (L' := [some (vr 0), some (vi c), some (vi (J 6 (3 + (5 * c)))), none]) (S' := [vr 0]) k220_11 rfl rfl ?_
    refine ev_s1 (L' := [some (vr 0), some (vi c), some (vi (J 6 (3 + (5 * c)))), none]) (S' := [vi (J 6 (3 + (5 * c))), vr 0]) k220_12 rfl rfl ?_
    refine ev_s1 (L' := [some (vr 0), some (vi c), some (vi (J 6 (3 + (5 * c)))), none]) (S' := [vi 2, vi (J 6 (3 + (5 * c))), vr 0]) k220_13 rfl rfl ?_
    refine ev_c_ne (t := 22) k220_14 rfl (by omega) (by omega) (by omega) (by omega) (fun h8 => ?_) (fun h8 => ?_)
    · refine ev_s1 (L' := [some (vr 0), some (vi c), some (vi (J 6 (3 + (5 * c)))), none]) (S' := [vi 22, vr 0]) k220_22 rfl rfl ?_
      refine ev_virt (a := [vi 22]) (S' := []) k220_24 rfl (Nat.le_of_ble_eq_true rfl) (by decide) (rfl) (by omega) ?_
      refine m_begins hJ (b := 22) (by decide) (by decide) hT (by first | omega | (simp only [List.length_append, List.length_cons, List.length_nil]; omega)) (fun J9 am9 => ?_)
      have hJ9 := am9.1
      have q9 := am9.2.2.1
      have f9 := am9.2.2.2
      show Ev d 220 27 [some (vr 0), some (vi c), some (vi (J 6 (3 + (5 * c)))), none] [] (SM J9) Q
      refine ev_s1 (L' := [some (vr 0), some (vi c), some (vi (J 6 (3 + (5 * c)))), none]) (S' := [vr 0]) k220_27 rfl rfl ?_
      refine ev_s1 (L' := [some (vr 0), some (vi c), some (vi (J 6 (3 + (5 * c)))), none]) (S' := [vi 21, vr 0]) k220_28 rfl rfl ?_
      refine ev_virt (a := [vi 21]) (S' := []) k220_30 rfl (Nat.le_of_ble_eq_true rfl) (by decide) (rfl) (by omega) ?_
      refine m_begins hJ9 (b := 21) (by decide) (by decide) am9.2.1 (by first | omega | (simp only [List.length_append, List.length_cons, List.length_nil]; omega)) (fun J10 am10 => ?_)
      have hJ10 := am10.1
      have q10 := am10.2.2.1
      have f10 := am10.2.2.2
      show Ev d 220 33 [some (vr 0), some (vi c), some (vi (J 6 (3 + (5 * c)))), none] [] (SM J10) Q
      refine ev_s1 (L' := [some (vr 0), some (vi c), some (vi (J 6 (3 + (5 * c)))), none]) (S' := [vr 0]) k220_33 rfl rfl ?_
      refine ev_s1 (L' := [some (vr 0), some (vi c), some (vi (J 6 (3 + (5 * c)))), none]) (S' := [vi 20, vr 0]) k220_34 rfl rfl ?_
      refine ev_virt (a := [vi 20]) (S' := []) k220_36 rfl (Nat.le_of_ble_eq_true rfl) (by decide) (rfl) (by omega) ?_
      refine m_begins hJ10 (b := 20) (by decide) (by decide) am10.2.1 (by first | omega | (simp only [List.length_append, List.length_cons, List.length_nil]; omega)) (fun J11 am11 => ?_)
      have hJ11 := am11.1
      have q11 := am11.2.2.1
      have f11 := am11.2.2.2
      show Ev d 220 39 [some (vr 0), some (vi c), some (vi (J 6 (3 + (5 * c)))), none] [] (SM J11) Q
      refine ev_s1 (L' := [some (vr 0), some (vi c), some (vi (J 6 (3 + (5 * c)))), none]) (S' := [vr 0]) k220_39 rfl rfl ?_
      refine ev_getR k220_40 (by decide) (rfl) (y_0_13) ?_
      refine ev_s1 (L' := [some (vr 0), some (vi c), some (vi (J 6 (3 + (5 * c)))), none]) (S' := [vi 3, vr 6]) k220_43 rfl rfl ?_
      refine ev_s1 (L' := [some (vr 0), some (vi c), some (vi (J 6 (3 + (5 * c)))), none]) (S' := [vi 5, vi 3, vr 6]) k220_44 rfl rfl ?_
      refine ev_s1 (L' := [some (vr 0), some (vi c), some (vi (J 6 (3 + (5 * c)))), none]) (S' := [vi c, vi 5, vi 3, vr 6]) k220_45 rfl rfl ?_
      refine ev_s1 (L' := [some (vr 0), some (vi c), some (vi (J 6 (3 + (5 * c)))), none]) (S' := [vi (5 * c), vi 3, vr 6]) k220_46 rfl rfl ?_
      refine ev_s1 (L' := [some (vr 0), some (vi c), some (vi (J 6 (3 + (5 * c)))), none]) (S' := [vi (3 + (5 * c)), vr 6]) k220_47 rfl rfl ?_
      refine ev_s1 (L' := [some (vr 0), some (vi c), some (vi (J 6 (3 + (5 * c)))), none]) (S' := [vi 1, vi (3 + (5 * c)), vr 6]) k220_48 rfl rfl ?_
      refine ev_s1 (L' := [some (vr 0), some (vi c), some (vi (J 6 (3 + (5 * c)))), none]) (S' := [vi ((3 + (5 * c)) + 1), vr 6]) k220_49 rfl rfl ?_
      refine ev_iald k220_50 (by decide) (rfl) (by omega) (by omega) ?_
      have rr12 := hJ11.1 6 ((3 + (5 * c)) + 1)
      rw [f11 6 (by decide), f10 6 (by decide), f9 6 (by decide)]
      rw [f11 6 (by decide), f10 6 (by decide), f9 6 (by decide)] at rr12
      refine ev_s1 (L' := [some (vr 0), some (vi c), some (vi (J 6 (3 + (5 * c)))), none]) (S' := [vr 0, vi (J 6 ((3 + (5 * c)) + 1))]) k220_51 rfl rfl ?_
      refine ev_getR k220_52 (by decide) (rfl) (y_0_13) ?_
      refine ev_s1 (L' := [some (vr 0), some (vi c), some (vi (J 6 (3 + (5 * c)))), none]) (S' := [vi 3, vr 6, vi (J 6 ((3 + (5 * c)) + 1))]) k220_55 rfl rfl ?_
      refine ev_s1 (L' := [some (vr 0), some (vi c), some (vi (J 6 (3 + (5 * c)))), none]) (S' := [vi 5, vi 3, vr 6, vi (J 6 ((3 + (5 * c)) + 1))]) k220_56 rfl rfl ?_
      refine ev_s1 (L' := [some (vr 0), some (vi c), some (vi (J 6 (3 + (5 * c)))), none]) (S' := [vi c, vi 5, vi 3, vr 6, vi (J 6 ((3 + (5 * c)) + 1))]) k220_57 rfl rfl ?_
      refine ev_s1 (L' := [some (vr 0), some (vi c), some (vi (J 6 (3 + (5 * c)))), none]) (S' := [vi (5 * c), vi 3, vr 6, vi (J 6 ((3 + (5 * c)) + 1))]) k220_58 rfl rfl ?_
      refine ev_s1 (L' := [some (vr 0), some (vi c), some (vi (J 6 (3 + (5 * c)))), none]) (S' := [vi (3 + (5 * c)), vr 6, vi (J 6 ((3 + (5 * c)) + 1))]) k220_59 rfl rfl ?_
      refine ev_s1 (L' := [some (vr 0), some (vi c), some (vi (J 6 (3 + (5 * c)))), none]) (S' := [vi 2, vi (3 + (5 * c)), vr 6, vi (J 6 ((3 + (5 * c)) + 1))]) k220_60 rfl rfl ?_
      refine ev_s1 (L' := [some (vr 0), some (vi c), some (vi (J 6 (3 + (5 * c)))), none]) (S' := [vi ((3 + (5 * c)) + 2), vr 6, vi (J 6 ((3 + (5 * c)) + 1))]) k220_61 rfl rfl ?_
      refine ev_iald k220_62 (by decide) (rfl) (by omega) (by omega) ?_
      have rr13 := hJ11.1 6 ((3 + (5 * c)) + 2)
      rw [f11 6 (by decide), f10 6 (by decide), f9 6 (by decide)]
      rw [f11 6 (by decide), f10 6 (by decide), f9 6 (by decide)] at rr13
      refine ev_s1 (L' := [some (vr 0), some (vi c), some (vi (J 6 (3 + (5 * c)))), none]) (S' := [vi ((J 6 ((3 + (5 * c)) + 1)) + (J 6 ((3 + (5 * c)) + 2)))]) k220_63 rfl rfl ?_
      refine ev_s1 (L' := [some (vr 0), some (vi c), some (vi (J 6 (3 + (5 * c)))), some (vi ((J 6 ((3 + (5 * c)) + 1)) + (J 6 ((3 + (5 * c)) + 2))))]) (S' := []) k220_64 rfl rfl ?_
      refine ev_s1 (L' := [some (vr 0), some (vi c), some (vi (J 6 (3 + (5 * c)))), some (vi ((J 6 ((3 + (5 * c)) + 1)) + (J 6 ((3 + (5 * c)) + 2))))]) (S' := [vi (J 6 (3 + (5 * c)))]) k220_65 rfl rfl ?_
      refine ev_s1 (L' := [some (vr 0), some (vi c), some (vi (J 6 (3 + (5 * c)))), some (vi ((J 6 ((3 + (5 * c)) + 1)) + (J 6 ((3 + (5 * c)) + 2))))]) (S' := [vi 2, vi (J 6 (3 + (5 * c)))]) k220_66 rfl rfl ?_
      refine ev_c_ne (t := 76) k220_67 rfl (by omega) (by omega) (by omega) (by omega) (fun h14 => ?_) (fun h14 => ?_)
      · refine ev_s1 (L' := [some (vr 0), some (vi c), some (vi (J 6 (3 + (5 * c)))), some (vi ((J 6 ((3 + (5 * c)) + 1)) + (J 6 ((3 + (5 * c)) + 2))))]) (S' := [vi (J 6 (3 + (5 * c)))]) k220_76 rfl rfl ?_
        refine ev_s1 (L' := [some (vr 0), some (vi c), some (vi (J 6 (3 + (5 * c)))), some (vi ((J 6 ((3 + (5 * c)) + 1)) + (J 6 ((3 + (5 * c)) + 2))))]) (S' := [vi 3, vi (J 6 (3 + (5 * c)))]) k220_77 rfl rfl ?_
        refine ev_c_ne (t := 89) k220_78 rfl (by omega) (by omega) (by omega) (by omega) (fun h15 => ?_) (fun h15 => ?_)
        · refine ev_s1 (L' := [some (vr 0), some (vi c), some (vi (J 6 (3 + (5 * c)))), some (vi ((J 6 ((3 + (5 * c)) + 1)) + (J 6 ((3 + (5 * c)) + 2))))]) (S' := [vi ((J 6 ((3 + (5 * c)) + 1)) + (J 6 ((3 + (5 * c)) + 2)))]) k220_89 rfl rfl ?_
          refine ev_ireturn k220_90 ?_
          exfalso; omega
        · refine ev_s1 (L' := [some (vr 0), some (vi c), some (vi (J 6 (3 + (5 * c)))), some (vi ((J 6 ((3 + (5 * c)) + 1)) + (J 6 ((3 + (5 * c)) + 2))))]) (S' := [vi ((J 6 ((3 + (5 * c)) + 1)) + (J 6 ((3 + (5 * c)) + 2)))]) k220_81 rfl rfl ?_
          refine ev_s1 (L' := [some (vr 0), some (vi c), some (vi (J 6 (3 + (5 * c)))), some (vi ((J 6 ((3 + (5 * c)) + 1)) + (J 6 ((3 + (5 * c)) + 2))))]) (S' := [vi 1000, vi ((J 6 ((3 + (5 * c)) + 1)) + (J 6 ((3 + (5 * c)) + 2)))]) k220_82 rfl rfl ?_
          refine ev_s1 (L' := [some (vr 0), some (vi c), some (vi (J 6 (3 + (5 * c)))), some (vi ((J 6 ((3 + (5 * c)) + 1)) + (J 6 ((3 + (5 * c)) + 2))))]) (S' := [vi (((J 6 ((3 + (5 * c)) + 1)) + (J 6 ((3 + (5 * c)) + 2))) - 1000)]) k220_85 rfl rfl ?_
          refine ev_goto (t := 90) k220_86 rfl ?_
          refine ev_ireturn k220_90 ?_
          have hk : J 6 (3 + 5 * c) = 3 := by omega
          have e1 : mrkP (J 6 (3 + 5 * c)) = [22, 21, 20] := by rw [hk]; rfl
          have e2 : mrkV (J 6 (3 + 5 * c)) (J 6 (3 + 5 * c + 1)) (J 6 (3 + 5 * c + 2)) = ((J 6 ((3 + (5 * c)) + 1)) + (J 6 ((3 + (5 * c)) + 2))) - 1000 := by unfold mrkV; rw [if_neg (by omega), if_pos (by omega)]
          rw [e1, e2] at hQ
          exact hQ _ ⟨hJ11, (by have tt := am11.2.1; simpa only [List.append_assoc, List.cons_append, List.nil_append] using tt), fun b hb => ((q11 b hb).trans ((q10 b hb).trans (q9 b hb))), fun a ha => ((f11 a (by omega)).trans ((f10 a (by omega)).trans (f9 a (by omega))))⟩
      · refine ev_s1 (L' := [some (vr 0), some (vi c), some (vi (J 6 (3 + (5 * c)))), some (vi ((J 6 ((3 + (5 * c)) + 1)) + (J 6 ((3 + (5 * c)) + 2))))]) (S' := [vi 2]) k220_70 rfl rfl ?_
        refine ev_s1 (L' := [some (vr 0), some (vi c), some (vi (J 6 (3 + (5 * c)))), some (vi ((J 6 ((3 + (5 * c)) + 1)) + (J 6 ((3 + (5 * c)) + 2))))]) (S' := [vi ((J 6 ((3 + (5 * c)) + 1)) + (J 6 ((3 + (5 * c)) + 2))), vi 2]) k220_71 rfl rfl ?_
        refine ev_s1 (L' := [some (vr 0), some (vi c), some (vi (J 6 (3 + (5 * c)))), some (vi ((J 6 ((3 + (5 * c)) + 1)) + (J 6 ((3 + (5 * c)) + 2))))]) (S' := [vi (2 * ((J 6 ((3 + (5 * c)) + 1)) + (J 6 ((3 + (5 * c)) + 2))))]) k220_72 rfl rfl ?_
        refine ev_goto (t := 90) k220_73 rfl ?_
        refine ev_ireturn k220_90 ?_
        exfalso; omega
    · refine ev_s1 (L' := [some (vr 0), some (vi c), some (vi (J 6 (3 + (5 * c)))), none]) (S' := [vi 24, vr 0]) k220_17 rfl rfl ?_
      refine ev_goto (t := 24) k220_19 rfl ?_
      refine ev_virt (a := [vi 24]) (S' := []) k220_24 rfl (Nat.le_of_ble_eq_true rfl) (by decide) (rfl) (by omega) ?_
      refine m_begins hJ (b := 24) (by decide) (by decide) hT (by first | omega | (simp only [List.length_append, List.length_cons, List.length_nil]; omega)) (fun J16 am16 => ?_)
      have hJ16 := am16.1
      have q16 := am16.2.2.1
      have f16 := am16.2.2.2
      show Ev d 220 27 [some (vr 0), some (vi c), some (vi (J 6 (3 + (5 * c)))), none] [] (SM J16) Q
      refine ev_s1 (L' := [some (vr 0), some (vi c), some (vi (J 6 (3 + (5 * c)))), none]) (S' := [vr 0]) k220_27 rfl rfl ?_
      refine ev_s1 (L' := [some (vr 0), some (vi c), some (vi (J 6 (3 + (5 * c)))), none]) (S' := [vi 21, vr 0]) k220_28 rfl rfl ?_
      refine ev_virt (a := [vi 21]) (S' := []) k220_30 rfl (Nat.le_of_ble_eq_true rfl) (by decide) (rfl) (by omega) ?_
      refine m_begins hJ16 (b := 21) (by decide) (by decide) am16.2.1 (by first | omega | (simp only [List.length_append, List.length_cons, List.length_nil]; omega)) (fun J17 am17 => ?_)
      have hJ17 := am17.1
      have q17 := am17.2.2.1
      have f17 := am17.2.2.2
      show Ev d 220 33 [some (vr 0), some (vi c), some (vi (J 6 (3 + (5 * c)))), none] [] (SM J17) Q
      refine ev_s1 (L' := [some (vr 0), some (vi c), some (vi (J 6 (3 + (5 * c)))), none]) (S' := [vr 0]) k220_33 rfl rfl ?_
      refine ev_s1 (L' := [some (vr 0), some (vi c), some (vi (J 6 (3 + (5 * c)))), none]) (S' := [vi 20, vr 0]) k220_34 rfl rfl ?_
      refine ev_virt (a := [vi 20]) (S' := []) k220_36 rfl (Nat.le_of_ble_eq_true rfl) (by decide) (rfl) (by omega) ?_
      refine m_begins hJ17 (b := 20) (by decide) (by decide) am17.2.1 (by first | omega | (simp only [List.length_append, List.length_cons, List.length_nil]; omega)) (fun J18 am18 => ?_)
      have hJ18 := am18.1
      have q18 := am18.2.2.1
      have f18 := am18.2.2.2
      show Ev d 220 39 [some (vr 0), some (vi c), some (vi (J 6 (3 + (5 * c)))), none] [] (SM J18) Q
      refine ev_s1 (L' := [some (vr 0), some (vi c), some (vi (J 6 (3 + (5 * c)))), none]) (S' := [vr 0]) k220_39 rfl rfl ?_
      refine ev_getR k220_40 (by decide) (rfl) (y_0_13) ?_
      refine ev_s1 (L' := [some (vr 0), some (vi c), some (vi (J 6 (3 + (5 * c)))), none]) (S' := [vi 3, vr 6]) k220_43 rfl rfl ?_
      refine ev_s1 (L' := [some (vr 0), some (vi c), some (vi (J 6 (3 + (5 * c)))), none]) (S' := [vi 5, vi 3, vr 6]) k220_44 rfl rfl ?_
      refine ev_s1 (L' := [some (vr 0), some (vi c), some (vi (J 6 (3 + (5 * c)))), none]) (S' := [vi c, vi 5, vi 3, vr 6]) k220_45 rfl rfl ?_
      refine ev_s1 (L' := [some (vr 0), some (vi c), some (vi (J 6 (3 + (5 * c)))), none]) (S' := [vi (5 * c), vi 3, vr 6]) k220_46 rfl rfl ?_
      refine ev_s1 (L' := [some (vr 0), some (vi c), some (vi (J 6 (3 + (5 * c)))), none]) (S' := [vi (3 + (5 * c)), vr 6]) k220_47 rfl rfl ?_
      refine ev_s1 (L' := [some (vr 0), some (vi c), some (vi (J 6 (3 + (5 * c)))), none]) (S' := [vi 1, vi (3 + (5 * c)), vr 6]) k220_48 rfl rfl ?_
      refine ev_s1 (L' := [some (vr 0), some (vi c), some (vi (J 6 (3 + (5 * c)))), none]) (S' := [vi ((3 + (5 * c)) + 1), vr 6]) k220_49 rfl rfl ?_
      refine ev_iald k220_50 (by decide) (rfl) (by omega) (by omega) ?_
      have rr19 := hJ18.1 6 ((3 + (5 * c)) + 1)
      rw [f18 6 (by decide), f17 6 (by decide), f16 6 (by decide)]
      rw [f18 6 (by decide), f17 6 (by decide), f16 6 (by decide)] at rr19
      refine ev_s1 (L' := [some (vr 0), some (vi c), some (vi (J 6 (3 + (5 * c)))), none]) (S' := [vr 0, vi (J 6 ((3 + (5 * c)) + 1))]) k220_51 rfl rfl ?_
      refine ev_getR k220_52 (by decide) (rfl) (y_0_13) ?_
      refine ev_s1 (L' := [some (vr 0), some (vi c), some (vi (J 6 (3 + (5 * c)))), none]) (S' := [vi 3, vr 6, vi (J 6 ((3 + (5 * c)) + 1))]) k220_55 rfl rfl ?_
      refine ev_s1 (L' := [some (vr 0), some (vi c), some (vi (J 6 (3 + (5 * c)))), none]) (S' := [vi 5, vi 3, vr 6, vi (J 6 ((3 + (5 * c)) + 1))]) k220_56 rfl rfl ?_
      refine ev_s1 (L' := [some (vr 0), some (vi c), some (vi (J 6 (3 + (5 * c)))), none]) (S' := [vi c, vi 5, vi 3, vr 6, vi (J 6 ((3 + (5 * c)) + 1))]) k220_57 rfl rfl ?_
      refine ev_s1 (L' := [some (vr 0), some (vi c), some (vi (J 6 (3 + (5 * c)))), none]) (S' := [vi (5 * c), vi 3, vr 6, vi (J 6 ((3 + (5 * c)) + 1))]) k220_58 rfl rfl ?_
      refine ev_s1 (L' := [some (vr 0), some (vi c), some (vi (J 6 (3 + (5 * c)))), none]) (S' := [vi (3 + (5 * c)), vr 6, vi (J 6 ((3 + (5 * c)) + 1))]) k220_59 rfl rfl ?_
      refine ev_s1 (L' := [some (vr 0), some (vi c), some (vi (J 6 (3 + (5 * c)))), none]) (S' := [vi 2, vi (3 + (5 * c)), vr 6, vi (J 6 ((3 + (5 * c)) + 1))]) k220_60 rfl rfl ?_
      refine ev_s1 (L' := [some (vr 0), some (vi c), some (vi (J 6 (3 + (5 * c)))), none]) (S' := [vi ((3 + (5 * c)) + 2), vr 6, vi (J 6 ((3 + (5 * c)) + 1))]) k220_61 rfl rfl ?_
      refine ev_iald k220_62 (by decide) (rfl) (by omega) (by omega) ?_
      have rr20 := hJ18.1 6 ((3 + (5 * c)) + 2)
      rw [f18 6 (by decide), f17 6 (by decide), f16 6 (by decide)]
      rw [f18 6 (by decide), f17 6 (by decide), f16 6 (by decide)] at rr20
      refine ev_s1 (L' := [some (vr 0), some (vi c), some (vi (J 6 (3 + (5 * c)))), none]) (S' := [vi ((J 6 ((3 + (5 * c)) + 1)) + (J 6 ((3 + (5 * c)) + 2)))]) k220_63 rfl rfl ?_
      refine ev_s1 (L' := [some (vr 0), some (vi c), some (vi (J 6 (3 + (5 * c)))), some (vi ((J 6 ((3 + (5 * c)) + 1)) + (J 6 ((3 + (5 * c)) + 2))))]) (S' := []) k220_64 rfl rfl ?_
      refine ev_s1 (L' := [some (vr 0), some (vi c), some (vi (J 6 (3 + (5 * c)))), some (vi ((J 6 ((3 + (5 * c)) + 1)) + (J 6 ((3 + (5 * c)) + 2))))]) (S' := [vi (J 6 (3 + (5 * c)))]) k220_65 rfl rfl ?_
      refine ev_s1 (L' := [some (vr 0), some (vi c), some (vi (J 6 (3 + (5 * c)))), some (vi ((J 6 ((3 + (5 * c)) + 1)) + (J 6 ((3 + (5 * c)) + 2))))]) (S' := [vi 2, vi (J 6 (3 + (5 * c)))]) k220_66 rfl rfl ?_
      refine ev_c_ne (t := 76) k220_67 rfl (by omega) (by omega) (by omega) (by omega) (fun h21 => ?_) (fun h21 => ?_)
      · refine ev_s1 (L' := [some (vr 0), some (vi c), some (vi (J 6 (3 + (5 * c)))), some (vi ((J 6 ((3 + (5 * c)) + 1)) + (J 6 ((3 + (5 * c)) + 2))))]) (S' := [vi (J 6 (3 + (5 * c)))]) k220_76 rfl rfl ?_
        refine ev_s1 (L' := [some (vr 0), some (vi c), some (vi (J 6 (3 + (5 * c)))), some (vi ((J 6 ((3 + (5 * c)) + 1)) + (J 6 ((3 + (5 * c)) + 2))))]) (S' := [vi 3, vi (J 6 (3 + (5 * c)))]) k220_77 rfl rfl ?_
        refine ev_c_ne (t := 89) k220_78 rfl (by omega) (by omega) (by omega) (by omega) (fun h22 => ?_) (fun h22 => ?_)
        · refine ev_s1 (L' := [some (vr 0), some (vi c), some (vi (J 6 (3 + (5 * c)))), some (vi ((J 6 ((3 + (5 * c)) + 1)) + (J 6 ((3 + (5 * c)) + 2))))]) (S' := [vi ((J 6 ((3 + (5 * c)) + 1)) + (J 6 ((3 + (5 * c)) + 2)))]) k220_89 rfl rfl ?_
          refine ev_ireturn k220_90 ?_
          exfalso; omega
        · refine ev_s1 (L' := [some (vr 0), some (vi c), some (vi (J 6 (3 + (5 * c)))), some (vi ((J 6 ((3 + (5 * c)) + 1)) + (J 6 ((3 + (5 * c)) + 2))))]) (S' := [vi ((J 6 ((3 + (5 * c)) + 1)) + (J 6 ((3 + (5 * c)) + 2)))]) k220_81 rfl rfl ?_
          refine ev_s1 (L' := [some (vr 0), some (vi c), some (vi (J 6 (3 + (5 * c)))), some (vi ((J 6 ((3 + (5 * c)) + 1)) + (J 6 ((3 + (5 * c)) + 2))))]) (S' := [vi 1000, vi ((J 6 ((3 + (5 * c)) + 1)) + (J 6 ((3 + (5 * c)) + 2)))]) k220_82 rfl rfl ?_
          refine ev_s1 (L' := [some (vr 0), some (vi c), some (vi (J 6 (3 + (5 * c)))), some (vi ((J 6 ((3 + (5 * c)) + 1)) + (J 6 ((3 + (5 * c)) + 2))))]) (S' := [vi (((J 6 ((3 + (5 * c)) + 1)) + (J 6 ((3 + (5 * c)) + 2))) - 1000)]) k220_85 rfl rfl ?_
          refine ev_goto (t := 90) k220_86 rfl ?_
          refine ev_ireturn k220_90 ?_
          exfalso; omega
      · refine ev_s1 (L' := [some (vr 0), some (vi c), some (vi (J 6 (3 + (5 * c)))), some (vi ((J 6 ((3 + (5 * c)) + 1)) + (J 6 ((3 + (5 * c)) + 2))))]) (S' := [vi 2]) k220_70 rfl rfl ?_
        refine ev_s1 (L' := [some (vr 0), some (vi c), some (vi (J 6 (3 + (5 * c)))), some (vi ((J 6 ((3 + (5 * c)) + 1)) + (J 6 ((3 + (5 * c)) + 2))))]) (S' := [vi ((J 6 ((3 + (5 * c)) + 1)) + (J 6 ((3 + (5 * c)) + 2))), vi 2]) k220_71 rfl rfl ?_
        refine ev_s1 (L' := [some (vr 0), some (vi c), some (vi (J 6 (3 + (5 * c)))), some (vi ((J 6 ((3 + (5 * c)) + 1)) + (J 6 ((3 + (5 * c)) + 2))))]) (S' := [vi (2 * ((J 6 ((3 + (5 * c)) + 1)) + (J 6 ((3 + (5 * c)) + 2))))]) k220_72 rfl rfl ?_
        refine ev_goto (t := 90) k220_73 rfl ?_
        refine ev_ireturn k220_90 ?_
        have hk : J 6 (3 + 5 * c) = 2 := by omega
        have e1 : mrkP (J 6 (3 + 5 * c)) = [24, 21, 20] := by rw [hk]; rfl
        have e2 : mrkV (J 6 (3 + 5 * c)) (J 6 (3 + 5 * c + 1)) (J 6 (3 + 5 * c + 2)) = 2 * ((J 6 ((3 + (5 * c)) + 1)) + (J 6 ((3 + (5 * c)) + 2))) := by unfold mrkV; rw [if_pos (by omega)]
        rw [e1, e2] at hQ
        exact hQ _ ⟨hJ18, (by have tt := am18.2.1; simpa only [List.append_assoc, List.cons_append, List.nil_append] using tt), fun b hb => ((q18 b hb).trans ((q17 b hb).trans (q16 b hb))), fun a ha => ((f18 a (by omega)).trans ((f17 a (by omega)).trans (f16 a (by omega))))⟩

theorem mrk_len (k : Int) : (mrkP k).length ≤ 3 := by
  unfold mrkP
  repeat' split
  all_goals decide
theorem sizT_len (k : Int) : (sizT k).length ≤ 3 := by
  unfold sizT
  split <;> decide
theorem mrk_rng {k m s : Int} (m0 : 0 ≤ m) (m1 : m ≤ 9) (s0 : 0 ≤ s) (s1 : s ≤ 16) : -2000 ≤ mrkV k m s ∧ mrkV k m s ≤ 2000 := by
  unfold mrkV
  repeat' split
  all_goals omega
theorem sizU_rng {k t : Int} (m0 : 0 ≤ t) (m1 : t ≤ 3) : -2000 ≤ sizU k t ∧ sizU k t ≤ 2000 := by
  unfold sizU
  split <;> omega

set_option maxHeartbeats 1000000 in
theorem m_throneSize {d : Nat} {J : Nat → Int → Int} {Q : Option jV → jS → Prop} (hJ : RZ J) (hw : OKW (J 6)) {c : Int} (c0 : 0 ≤ c) (c1 : c < J 6 1) {l : List Int} (hT : TRo (J 0 23) (J 14) l) (hl : l.length < 9) (hd : 1 ≤ d) (hQ : ∀ J', ASM J J' (l ++ sizT (J 6 (3 + 5 * c))) → Q (some (vi (sizU (J 6 (3 + 5 * c)) (J 6 (3 + 5 * c + 3))))) (SM J')) : Cl d 221 [vr 0, vi c] (SM J) Q := by
  have w0 := hw.1
  have w1 := hw.2.1
  have w2 := hw.2.2.1
  obtain ⟨⟨ck0, ck1⟩, ⟨cm0, cm1⟩, ⟨cs0, cs1⟩, ⟨ce0, ce1⟩, -⟩ := hw.2.2.2.1 c c0 c1
  refine ⟨by rw [l221]; exact Nat.le_of_ble_eq_true rfl, ?_⟩
  rw [l221]
  show Ev d 221 0 [some (vr 0), some (vi c), none, none] [] (SM J) Q
  refine ev_s1 (L' := [some (vr 0), some (vi c), none, none]) (S' := [vr 0]) k221_0 rfl rfl ?_
  refine ev_s1 (L' := [some (vr 0), some (vi c), none, none]) (S' := [vi c, vr 0]) k221_1 rfl rfl ?_
  refine ev_virt (a := [vi c]) (S' := []) k221_2 rfl (Nat.le_of_ble_eq_true rfl) (by decide) (rfl) (by omega) ?_
  refine m_kindIn hJ (c := c) (by omega) (by omega) (?_)
  have kr2 := (hw.2.2.2.1 c (by omega) (by omega)).1
  show Ev d 221 5 [some (vr 0), some (vi c), none, none] [vi (J 6 (3 + (5 * c)))] (SM J) Q
  refine ev_s1 (L' := [some (vr 0), some (vi c), none, none]) (S' := [vi 5, vi (J 6 (3 + (5 * c)))]) k221_5 rfl rfl ?_
  refine ev_c_ne (t := 13) k221_6 rfl (by omega) (by omega) (by omega) (by omega) (fun h1 => ?_) (fun h1 => ?_)
  · refine ev_s1 (L' := [some (vr 0), some (vi c), none, none]) (S' := [vi 0]) k221_13 rfl rfl ?_
    refine ev_s1 (L' := [some (vr 0), some (vi c), some (vi 0), none]) (S' := []) k221_14 rfl rfl ?_
    refine ev_s1 (L' := [some (vr 0), some (vi c), some (vi 0), none]) (S' := [vi 0]) k221_15 rfl rfl ?_
    refine ev_z_eq (t := 25) k221_16 rfl (by omega) (by omega) (fun _ => ?_) (fun h => absurd h (by decide))
    refine ev_s1 (L' := [some (vr 0), some (vi c), some (vi 0), none]) (S' := [vr 0]) k221_25 rfl rfl ?_
    refine ev_s1 (L' := [some (vr 0), some (vi c), some (vi 0), none]) (S' := [vi 13, vr 0]) k221_26 rfl rfl ?_
    refine ev_virt (a := [vi 13]) (S' := []) k221_28 rfl (Nat.le_of_ble_eq_true rfl) (by decide) (rfl) (by omega) ?_
    refine m_begins hJ (b := 13) (by decide) (by decide) hT (by first | omega | (simp only [List.length_append, List.length_cons, List.length_nil]; omega)) (fun J2 am2 => ?_)
    have hJ2 := am2.1
    have q2 := am2.2.2.1
    have f2 := am2.2.2.2
    show Ev d 221 31 [some (vr 0), some (vi c), some (vi 0), none] [] (SM J2) Q
    refine ev_s1 (L' := [some (vr 0), some (vi c), some (vi 0), none]) (S' := [vr 0]) k221_31 rfl rfl ?_
    refine ev_s1 (L' := [some (vr 0), some (vi c), some (vi 0), none]) (S' := [vi 10, vr 0]) k221_32 rfl rfl ?_
    refine ev_virt (a := [vi 10]) (S' := []) k221_34 rfl (Nat.le_of_ble_eq_true rfl) (by decide) (rfl) (by omega) ?_
    refine m_begins hJ2 (b := 10) (by decide) (by decide) am2.2.1 (by first | omega | (simp only [List.length_append, List.length_cons, List.length_nil]; omega)) (fun J3 am3 => ?_)
    have hJ3 := am3.1
    have q3 := am3.2.2.1
    have f3 := am3.2.2.2
    show Ev d 221 37 [some (vr 0), some (vi c), some (vi 0), none] [] (SM J3) Q
    refine ev_s1 (L' := [some (vr 0), some (vi c), some (vi 0), none]) (S' := [vr 0]) k221_37 rfl rfl ?_
    refine ev_getR k221_38 (by decide) (rfl) (y_0_13) ?_
    refine ev_s1 (L' := [some (vr 0), some (vi c), some (vi 0), none]) (S' := [vi 3, vr 6]) k221_41 rfl rfl ?_
    refine ev_s1 (L' := [some (vr 0), some (vi c), some (vi 0), none]) (S' := [vi 5, vi 3, vr 6]) k221_42 rfl rfl ?_
    refine ev_s1 (L' := [some (vr 0), some (vi c), some (vi 0), none]) (S' := [vi c, vi 5, vi 3, vr 6]) k221_43 rfl rfl ?_
    refine ev_s1 (L' := [some (vr 0), some (vi c), some (vi 0), none]) (S' := [vi (5 * c), vi 3, vr 6]) k221_44 rfl rfl ?_
    refine ev_s1 (L' := [some (vr 0), some (vi c), some (vi 0), none]) (S' := [vi (3 + (5 * c)), vr 6]) k221_45 rfl rfl ?_
    refine ev_s1 (L' := [some (vr 0), some (vi c), some (vi 0), none]) (S' := [vi 3, vi (3 + (5 * c)), vr 6]) k221_46 rfl rfl ?_
    refine ev_s1 (L' := [some (vr 0), some (vi c), some (vi 0), none]) (S' := [vi ((3 + (5 * c)) + 3), vr 6]) k221_47 rfl rfl ?_
    refine ev_iald k221_48 (by decide) (rfl) (by omega) (by omega) ?_
    have rr4 := hJ3.1 6 ((3 + (5 * c)) + 3)
    rw [f3 6 (by decide), f2 6 (by decide)]
    rw [f3 6 (by decide), f2 6 (by decide)] at rr4
    refine ev_s1 (L' := [some (vr 0), some (vi c), some (vi 0), none]) (S' := [vi 100, vi (J 6 ((3 + (5 * c)) + 3))]) k221_49 rfl rfl ?_
    refine ev_s1 (L' := [some (vr 0), some (vi c), some (vi 0), none]) (S' := [vi ((J 6 ((3 + (5 * c)) + 3)) - 100)]) k221_51 rfl rfl ?_
    refine ev_s1 (L' := [some (vr 0), some (vi c), some (vi 0), some (vi ((J 6 ((3 + (5 * c)) + 3)) - 100))]) (S' := []) k221_52 rfl rfl ?_
    refine ev_s1 (L' := [some (vr 0), some (vi c), some (vi 0), some (vi ((J 6 ((3 + (5 * c)) + 3)) - 100))]) (S' := [vi 0]) k221_53 rfl rfl ?_
    refine ev_z_eq (t := 63) k221_54 rfl (by omega) (by omega) (fun _ => ?_) (fun h => absurd h (by decide))
    refine ev_s1 (L' := [some (vr 0), some (vi c), some (vi 0), some (vi ((J 6 ((3 + (5 * c)) + 3)) - 100))]) (S' := [vi ((J 6 ((3 + (5 * c)) + 3)) - 100)]) k221_63 rfl rfl ?_
    refine ev_ireturn k221_64 ?_
    have e1 : sizT (J 6 (3 + 5 * c)) = [13, 10] := by unfold sizT; rw [if_neg (by omega)]
    have e2 : sizU (J 6 (3 + 5 * c)) (J 6 (3 + 5 * c + 3)) = (J 6 ((3 + (5 * c)) + 3)) - 100 := by unfold sizU; rw [if_neg (by omega)]
    rw [e1, e2] at hQ
    exact hQ _ ⟨hJ3, (by have tt := am3.2.1; simpa only [List.append_assoc, List.cons_append, List.nil_append] using tt), fun b hb => ((q3 b hb).trans (q2 b hb)), fun a ha => ((f3 a (by omega)).trans (f2 a (by omega)))⟩
  · refine ev_s1 (L' := [some (vr 0), some (vi c), none, none]) (S' := [vi 1]) k221_9 rfl rfl ?_
    refine ev_goto (t := 14) k221_10 rfl ?_
    refine ev_s1 (L' := [some (vr 0), some (vi c), some (vi 1), none]) (S' := []) k221_14 rfl rfl ?_
    refine ev_s1 (L' := [some (vr 0), some (vi c), some (vi 1), none]) (S' := [vi 1]) k221_15 rfl rfl ?_
    refine ev_z_eq (t := 25) k221_16 rfl (by omega) (by omega) (fun h => absurd h (by decide)) (fun _ => ?_)
    refine ev_s1 (L' := [some (vr 0), some (vi c), some (vi 1), none]) (S' := [vr 0]) k221_19 rfl rfl ?_
    refine ev_s1 (L' := [some (vr 0), some (vi c), some (vi 1), none]) (S' := [vi 14, vr 0]) k221_20 rfl rfl ?_
    refine ev_virt (a := [vi 14]) (S' := []) k221_22 rfl (Nat.le_of_ble_eq_true rfl) (by decide) (rfl) (by omega) ?_
    refine m_begins hJ (b := 14) (by decide) (by decide) hT (by first | omega | (simp only [List.length_append, List.length_cons, List.length_nil]; omega)) (fun J5 am5 => ?_)
    have hJ5 := am5.1
    have q5 := am5.2.2.1
    have f5 := am5.2.2.2
    show Ev d 221 25 [some (vr 0), some (vi c), some (vi 1), none] [] (SM J5) Q
    refine ev_s1 (L' := [some (vr 0), some (vi c), some (vi 1), none]) (S' := [vr 0]) k221_25 rfl rfl ?_
    refine ev_s1 (L' := [some (vr 0), some (vi c), some (vi 1), none]) (S' := [vi 13, vr 0]) k221_26 rfl rfl ?_
    refine ev_virt (a := [vi 13]) (S' := []) k221_28 rfl (Nat.le_of_ble_eq_true rfl) (by decide) (rfl) (by omega) ?_
    refine m_begins hJ5 (b := 13) (by decide) (by decide) am5.2.1 (by first | omega | (simp only [List.length_append, List.length_cons, List.length_nil]; omega)) (fun J6 am6 => ?_)
    have hJ6 := am6.1
    have q6 := am6.2.2.1
    have f6 := am6.2.2.2
    show Ev d 221 31 [some (vr 0), some (vi c), some (vi 1), none] [] (SM J6) Q
    refine ev_s1 (L' := [some (vr 0), some (vi c), some (vi 1), none]) (S' := [vr 0]) k221_31 rfl rfl ?_
    refine ev_s1 (L' := [some (vr 0), some (vi c), some (vi 1), none]) (S' := [vi 10, vr 0]) k221_32 rfl rfl ?_
    refine ev_virt (a := [vi 10]) (S' := []) k221_34 rfl (Nat.le_of_ble_eq_true rfl) (by decide) (rfl) (by omega) ?_
    refine m_begins hJ6 (b := 10) (by decide) (by decide) am6.2.1 (by first | omega | (simp only [List.length_append, List.length_cons, List.length_nil]; omega)) (fun J7 am7 => ?_)
    have hJ7 := am7.1
    have q7 := am7.2.2.1
    have f7 := am7.2.2.2
    show Ev d 221 37 [some (vr 0), some (vi c), some (vi 1), none] [] (SM J7) Q
    refine ev_s1 (L' := [some (vr 0), some (vi c), some (vi 1), none]) (S' := [vr 0]) k221_37 rfl rfl ?_
    refine ev_getR k221_38 (by decide) (rfl) (y_0_13) ?_
    refine ev_s1 (L' := [some (vr 0), some (vi c), some (vi 1), none]) (S' := [vi 3, vr 6]) k221_41 rfl rfl ?_
    refine ev_s1 (L' := [some (vr 0), some (vi c), some (vi 1), none]) (S' := [vi 5, vi 3, vr 6]) k221_42 rfl rfl ?_
    refine ev_s1 (L' := [some (vr 0), some (vi c), some (vi 1), none]) (S' := [vi c, vi 5, vi 3, vr 6]) k221_43 rfl rfl ?_
    refine ev_s1 (L' := [some (vr 0), some (vi c), some (vi 1), none]) (S' := [vi (5 * c), vi 3, vr 6]) k221_44 rfl rfl ?_
    refine ev_s1 (L' := [some (vr 0), some (vi c), some (vi 1), none]) (S' := [vi (3 + (5 * c)), vr 6]) k221_45 rfl rfl ?_
    refine ev_s1 (L' := [some (vr 0), some (vi c), some (vi 1), none]) (S' := [vi 3, vi (3 + (5 * c)), vr 6]) k221_46 rfl rfl ?_
    refine ev_s1 (L' := [some (vr 0), some (vi c), some (vi 1), none]) (S' := [vi ((3 + (5 * c)) + 3), vr 6]) k221_47 rfl rfl ?_
    refine ev_iald k221_48 (by decide) (rfl) (by omega) (by omega) ?_
    have rr8 := hJ7.1 6 ((3 + (5 * c)) + 3)
    rw [f7 6 (by decide), f6 6 (by decide), f5 6 (by decide)]
    rw [f7 6 (by decide), f6 6 (by decide), f5 6 (by decide)] at rr8
    refine ev_s1 (L' := [some (vr 0), some (vi c), some (vi 1), none]) (S' := [vi 100, vi (J 6 ((3 + (5 * c)) + 3))]) k221_49 rfl rfl ?_
    refine ev_s1 (L' := [some (vr 0), some (vi c), some (vi 1), none]) (S' := [vi ((J 6 ((3 + (5 * c)) + 3)) - 100)]) k221_51 rfl rfl ?_
    refine ev_s1 (L' := [some (vr 0), some (vi c), some (vi 1), some (vi ((J 6 ((3 + (5 * c)) + 3)) - 100))]) (S' := []) k221_52 rfl rfl ?_
    refine ev_s1 (L' := [some (vr 0), some (vi c), some (vi 1), some (vi ((J 6 ((3 + (5 * c)) + 3)) - 100))]) (S' := [vi 1]) k221_53 rfl rfl ?_
    refine ev_z_eq (t := 63) k221_54 rfl (by omega) (by omega) (fun h => absurd h (by decide)) (fun _ => ?_)
    refine ev_s1 (L' := [some (vr 0), some (vi c), some (vi 1), some (vi ((J 6 ((3 + (5 * c)) + 3)) - 100))]) (S' := [vi 2]) k221_57 rfl rfl ?_
    refine ev_s1 (L' := [some (vr 0), some (vi c), some (vi 1), some (vi ((J 6 ((3 + (5 * c)) + 3)) - 100))]) (S' := [vi ((J 6 ((3 + (5 * c)) + 3)) - 100), vi 2]) k221_58 rfl rfl ?_
    refine ev_s1 (L' := [some (vr 0), some (vi c), some (vi 1), some (vi ((J 6 ((3 + (5 * c)) + 3)) - 100))]) (S' := [vi (2 * ((J 6 ((3 + (5 * c)) + 3)) - 100))]) k221_59 rfl rfl ?_
    refine ev_goto (t := 64) k221_60 rfl ?_
    refine ev_ireturn k221_64 ?_
    have e1 : sizT (J 6 (3 + 5 * c)) = [14, 13, 10] := by unfold sizT; rw [if_pos (by omega)]
    have e2 : sizU (J 6 (3 + 5 * c)) (J 6 (3 + 5 * c + 3)) = 2 * ((J 6 ((3 + (5 * c)) + 3)) - 100) := by unfold sizU; rw [if_pos (by omega)]
    rw [e1, e2] at hQ
    exact hQ _ ⟨hJ7, (by have tt := am7.2.1; simpa only [List.append_assoc, List.cons_append, List.nil_append] using tt), fun b hb => ((q7 b hb).trans ((q6 b hb).trans (q5 b hb))), fun a ha => ((f7 a (by omega)).trans ((f6 a (by omega)).trans (f5 a (by omega))))⟩

set_option maxHeartbeats 1000000 in
theorem m_plainSize {d : Nat} {J : Nat → Int → Int} {Q : Option jV → jS → Prop} (hJ : RZ J) (hw : OKW (J 6)) {c : Int} (c0 : 0 ≤ c) (c1 : c < J 6 1) {l : List Int} (hT : TRo (J 0 23) (J 14) l) (hl : l.length < 5) (hk3 : J 6 (3 + 5 * c) ≤ 3) (hd : 2 ≤ d) (hQ : ∀ J', ASM J J' (l ++ ((if J 6 (3 + 5 * c) = 2 then [12, 11, 10] else [11, 10]) ++ mrkP (J 6 (3 + 5 * c)))) → Q (some (vi (if J 6 (3 + 5 * c) = 2 then -(J 6 (3 + 5 * c + 3) + mrkV (J 6 (3 + 5 * c)) (J 6 (3 + 5 * c + 1)) (J 6 (3 + 5 * c + 2))) else J 6 (3 + 5 * c + 3) + mrkV (J 6 (3 + 5 * c)) (J 6 (3 + 5 * c + 1)) (J 6 (3 + 5 * c + 2))))) (SM J')) : Cl d 222 [vr 0, vi c] (SM J) Q := by
  have w0 := hw.1
  have w1 := hw.2.1
  have w2 := hw.2.2.1
  obtain ⟨⟨ck0, ck1⟩, ⟨cm0, cm1⟩, ⟨cs0, cs1⟩, ⟨ce0, ce1⟩, -⟩ := hw.2.2.2.1 c c0 c1
  have mr := mrk_rng (k := J 6 (3 + 5 * c)) cm0 cm1 cs0 cs1
  refine ⟨by rw [l222]; exact Nat.le_of_ble_eq_true rfl, ?_⟩
  rw [l222]
  show Ev d 222 0 [some (vr 0), some (vi c), none, none] [] (SM J) Q
  refine ev_s1 (L' := [some (vr 0), some (vi c), none, none]) (S' := [vr 0]) k222_0 rfl rfl ?_
  refine ev_s1 (L' := [some (vr 0), some (vi c), none, none]) (S' := [vi c, vr 0]) k222_1 rfl rfl ?_
  refine ev_virt (a := [vi c]) (S' := []) k222_2 rfl (Nat.le_of_ble_eq_true rfl) (by decide) (rfl) (by omega) ?_
  refine m_kindIn hJ (c := c) (by omega) (by omega) (?_)
  have kr2 := (hw.2.2.2.1 c (by omega) (by omega)).1
  show Ev d 222 5 [some (vr 0), some (vi c), none, none] [vi (J 6 (3 + (5 * c)))] (SM J) Q
  refine ev_s1 (L' := [some (vr 0), some (vi c), none, none]) (S' := [vi 2, vi (J 6 (3 + (5 * c)))]) k222_5 rfl rfl ?_
  refine ev_c_ne (t := 13) k222_6 rfl (by omega) (by omega) (by omega) (by omega) (fun h1 => ?_) (fun h1 => ?_)
  · refine ev_s1 (L' := [some (vr 0), some (vi c), none, none]) (S' := [vi 0]) k222_13 rfl rfl ?_
    refine ev_s1 (L' := [some (vr 0), some (vi c), some (vi 0), none]) (S' := []) k222_14 rfl rfl ?_
    refine ev_s1 (L' := [some (vr 0), some (vi c), some (vi 0), none]) (S' := [vi 0]) k222_15 rfl rfl ?_
    refine ev_z_eq (t := 25) k222_16 rfl (by omega) (by omega) (fun _ => ?_) (fun h => absurd h (by decide))
    refine ev_s1 (L' := [some (vr 0), some (vi c), some (vi 0), none]) (S' := [vr 0]) k222_25 rfl rfl ?_
    refine ev_s1 (L' := [some (vr 0), some (vi c), some (vi 0), none]) (S' := [vi 11, vr 0]) k222_26 rfl rfl ?_
    refine ev_virt (a := [vi 11]) (S' := []) k222_28 rfl (Nat.le_of_ble_eq_true rfl) (by decide) (rfl) (by omega) ?_
    refine m_begins hJ (b := 11) (by decide) (by decide) hT (by first | omega | (simp only [List.length_append, List.length_cons, List.length_nil]; omega)) (fun J2 am2 => ?_)
    have hJ2 := am2.1
    have q2 := am2.2.2.1
    have f2 := am2.2.2.2
    show Ev d 222 31 [some (vr 0), some (vi c), some (vi 0), none] [] (SM J2) Q
    refine ev_s1 (L' := [some (vr 0), some (vi c), some (vi 0), none]) (S' := [vr 0]) k222_31 rfl rfl ?_
    refine ev_s1 (L' := [some (vr 0), some (vi c), some (vi 0), none]) (S' := [vi 10, vr 0]) k222_32 rfl rfl ?_
    refine ev_virt (a := [vi 10]) (S' := []) k222_34 rfl (Nat.le_of_ble_eq_true rfl) (by decide) (rfl) (by omega) ?_
    refine m_begins hJ2 (b := 10) (by decide) (by decide) am2.2.1 (by first | omega | (simp only [List.length_append, List.length_cons, List.length_nil]; omega)) (fun J3 am3 => ?_)
    have hJ3 := am3.1
    have q3 := am3.2.2.1
    have f3 := am3.2.2.2
    show Ev d 222 37 [some (vr 0), some (vi c), some (vi 0), none] [] (SM J3) Q
    refine ev_s1 (L' := [some (vr 0), some (vi c), some (vi 0), none]) (S' := [vr 0]) k222_37 rfl rfl ?_
    refine ev_getR k222_38 (by decide) (rfl) (y_0_13) ?_
    refine ev_s1 (L' := [some (vr 0), some (vi c), some (vi 0), none]) (S' := [vi 3, vr 6]) k222_41 rfl rfl ?_
    refine ev_s1 (L' := [some (vr 0), some (vi c), some (vi 0), none]) (S' := [vi 5, vi 3, vr 6]) k222_42 rfl rfl ?_
    refine ev_s1 (L' := [some (vr 0), some (vi c), some (vi 0), none]) (S' := [vi c, vi 5, vi 3, vr 6]) k222_43 rfl rfl ?_
    refine ev_s1 (L' := [some (vr 0), some (vi c), some (vi 0), none]) (S' := [vi (5 * c), vi 3, vr 6]) k222_44 rfl rfl ?_
    refine ev_s1 (L' := [some (vr 0), some (vi c), some (vi 0), none]) (S' := [vi (3 + (5 * c)), vr 6]) k222_45 rfl rfl ?_
    refine ev_s1 (L' := [some (vr 0), some (vi c), some (vi 0), none]) (S' := [vi 3, vi (3 + (5 * c)), vr 6]) k222_46 rfl rfl ?_
    refine ev_s1 (L' := [some (vr 0), some (vi c), some (vi 0), none]) (S' := [vi ((3 + (5 * c)) + 3), vr 6]) k222_47 rfl rfl ?_
    refine ev_iald k222_48 (by decide) (rfl) (by omega) (by omega) ?_
    have rr4 := hJ3.1 6 ((3 + (5 * c)) + 3)
    rw [f3 6 (by decide), f2 6 (by decide)]
    rw [f3 6 (by decide), f2 6 (by decide)] at rr4
    refine ev_s1 (L' := [some (vr 0), some (vi c), some (vi 0), none]) (S' := [vr 0, vi (J 6 ((3 + (5 * c)) + 3))]) k222_49 rfl rfl ?_
    refine ev_s1 (L' := [some (vr 0), some (vi c), some (vi 0), none]) (S' := [vi c, vr 0, vi (J 6 ((3 + (5 * c)) + 3))]) k222_50 rfl rfl ?_
    refine ev_virt (a := [vi c]) (S' := [vi (J 6 ((3 + (5 * c)) + 3))]) k222_51 rfl (Nat.le_of_ble_eq_true rfl) (by decide) (rfl) (by omega) ?_
    refine m_plainMark hJ3 (c := c) (by rw [f3 6 (by decide), f2 6 (by decide)]; exact hw) (by omega) (by rw [f3 6 (by decide), f2 6 (by decide)]; omega) am3.2.1 (by first | omega | (simp only [List.length_append, List.length_cons, List.length_nil]; omega)) (by rw [f3 6 (by decide), f2 6 (by decide)]; omega) (by omega) (fun J5 am5 => ?_)
    rw [f3 6 (by decide), f2 6 (by decide)] at am5
    have hJ5 := am5.1
    have q5 := am5.2.2.1
    have f5 := am5.2.2.2
    rw [f3 6 (by decide), f2 6 (by decide)]
    show Ev d 222 54 [some (vr 0), some (vi c), some (vi 0), none] [vi (mrkV (J 6 (3 + 5 * c)) (J 6 (3 + 5 * c + 1)) (J 6 (3 + 5 * c + 2))), vi (J 6 ((3 + (5 * c)) + 3))] (SM J5) Q
    refine ev_s1 (L' := [some (vr 0), some (vi c), some (vi 0), none]) (S' := [vi ((J 6 ((3 + (5 * c)) + 3)) + (mrkV (J 6 (3 + 5 * c)) (J 6 (3 + 5 * c + 1)) (J 6 (3 + 5 * c + 2))))]) k222_54 rfl rfl ?_
    refine ev_s1 (L' := [some (vr 0), some (vi c), some (vi 0), some (vi ((J 6 ((3 + (5 * c)) + 3)) + (mrkV (J 6 (3 + 5 * c)) (J 6 (3 + 5 * c + 1)) (J 6 (3 + 5 * c + 2)))))]) (S' := []) k222_55 rfl rfl ?_
    refine ev_s1 (L' := [some (vr 0), some (vi c), some (vi 0), some (vi ((J 6 ((3 + (5 * c)) + 3)) + (mrkV (J 6 (3 + 5 * c)) (J 6 (3 + 5 * c + 1)) (J 6 (3 + 5 * c + 2)))))]) (S' := [vi 0]) k222_56 rfl rfl ?_
    refine ev_z_eq (t := 65) k222_57 rfl (by omega) (by omega) (fun _ => ?_) (fun h => absurd h (by decide))
    refine ev_s1 (L' := [some (vr 0), some (vi c), some (vi 0), some (vi ((J 6 ((3 + (5 * c)) + 3)) + (mrkV (J 6 (3 + 5 * c)) (J 6 (3 + 5 * c + 1)) (J 6 (3 + 5 * c + 2)))))]) (S' := [vi ((J 6 ((3 + (5 * c)) + 3)) + (mrkV (J 6 (3 + 5 * c)) (J 6 (3 + 5 * c + 1)) (J 6 (3 + 5 * c + 2))))]) k222_65 rfl rfl ?_
    refine ev_ireturn k222_66 ?_
    rw [if_neg (by omega), if_neg (by omega)] at hQ
    exact hQ _ ⟨hJ5, (by have tt := am5.2.1; simpa only [List.append_assoc, List.cons_append, List.nil_append] using tt), fun b hb => ((q5 b hb).trans ((q3 b hb).trans (q2 b hb))), fun a ha => ((f5 a (by omega)).trans ((f3 a (by omega)).trans (f2 a (by omega))))⟩
  · refine ev_s1 (L' := [some (vr 0), some (vi c), none, none]) (S' := [vi 1]) k222_9 rfl rfl ?_
    refine ev_goto (t := 14) k222_10 rfl ?_
    refine ev_s1 (L' := [some (vr 0), some (vi c), some (vi 1), none]) (S' := []) k222_14 rfl rfl ?_
    refine ev_s1 (L' := [some (vr 0), some (vi c), some (vi 1), none]) (S' := [vi 1]) k222_15 rfl rfl ?_
    refine ev_z_eq (t := 25) k222_16 rfl (by omega) (by omega) (fun h => absurd h (by decide)) (fun _ => ?_)
    refine ev_s1 (L' := [some (vr 0), some (vi c), some (vi 1), none]) (S' := [vr 0]) k222_19 rfl rfl ?_
    refine ev_s1 (L' := [some (vr 0), some (vi c), some (vi 1), none]) (S' := [vi 12, vr 0]) k222_20 rfl rfl ?_
    refine ev_virt (a := [vi 12]) (S' := []) k222_22 rfl (Nat.le_of_ble_eq_true rfl) (by decide) (rfl) (by omega) ?_
    refine m_begins hJ (b := 12) (by decide) (by decide) hT (by first | omega | (simp only [List.length_append, List.length_cons, List.length_nil]; omega)) (fun J6 am6 => ?_)
    have hJ6 := am6.1
    have q6 := am6.2.2.1
    have f6 := am6.2.2.2
    show Ev d 222 25 [some (vr 0), some (vi c), some (vi 1), none] [] (SM J6) Q
    refine ev_s1 (L' := [some (vr 0), some (vi c), some (vi 1), none]) (S' := [vr 0]) k222_25 rfl rfl ?_
    refine ev_s1 (L' := [some (vr 0), some (vi c), some (vi 1), none]) (S' := [vi 11, vr 0]) k222_26 rfl rfl ?_
    refine ev_virt (a := [vi 11]) (S' := []) k222_28 rfl (Nat.le_of_ble_eq_true rfl) (by decide) (rfl) (by omega) ?_
    refine m_begins hJ6 (b := 11) (by decide) (by decide) am6.2.1 (by first | omega | (simp only [List.length_append, List.length_cons, List.length_nil]; omega)) (fun J7 am7 => ?_)
    have hJ7 := am7.1
    have q7 := am7.2.2.1
    have f7 := am7.2.2.2
    show Ev d 222 31 [some (vr 0), some (vi c), some (vi 1), none] [] (SM J7) Q
    refine ev_s1 (L' := [some (vr 0), some (vi c), some (vi 1), none]) (S' := [vr 0]) k222_31 rfl rfl ?_
    refine ev_s1 (L' := [some (vr 0), some (vi c), some (vi 1), none]) (S' := [vi 10, vr 0]) k222_32 rfl rfl ?_
    refine ev_virt (a := [vi 10]) (S' := []) k222_34 rfl (Nat.le_of_ble_eq_true rfl) (by decide) (rfl) (by omega) ?_
    refine m_begins hJ7 (b := 10) (by decide) (by decide) am7.2.1 (by first | omega | (simp only [List.length_append, List.length_cons, List.length_nil]; omega)) (fun J8 am8 => ?_)
    have hJ8 := am8.1
    have q8 := am8.2.2.1
    have f8 := am8.2.2.2
    show Ev d 222 37 [some (vr 0), some (vi c), some (vi 1), none] [] (SM J8) Q
    refine ev_s1 (L' := [some (vr 0), some (vi c), some (vi 1), none]) (S' := [vr 0]) k222_37 rfl rfl ?_
    refine ev_getR k222_38 (by decide) (rfl) (y_0_13) ?_
    refine ev_s1 (L' := [some (vr 0), some (vi c), some (vi 1), none]) (S' := [vi 3, vr 6]) k222_41 rfl rfl ?_
    refine ev_s1 (L' := [some (vr 0), some (vi c), some (vi 1), none]) (S' := [vi 5, vi 3, vr 6]) k222_42 rfl rfl ?_
    refine ev_s1 (L' := [some (vr 0), some (vi c), some (vi 1), none]) (S' := [vi c, vi 5, vi 3, vr 6]) k222_43 rfl rfl ?_
    refine ev_s1 (L' := [some (vr 0), some (vi c), some (vi 1), none]) (S' := [vi (5 * c), vi 3, vr 6]) k222_44 rfl rfl ?_
    refine ev_s1 (L' := [some (vr 0), some (vi c), some (vi 1), none]) (S' := [vi (3 + (5 * c)), vr 6]) k222_45 rfl rfl ?_
    refine ev_s1 (L' := [some (vr 0), some (vi c), some (vi 1), none]) (S' := [vi 3, vi (3 + (5 * c)), vr 6]) k222_46 rfl rfl ?_
    refine ev_s1 (L' := [some (vr 0), some (vi c), some (vi 1), none]) (S' := [vi ((3 + (5 * c)) + 3), vr 6]) k222_47 rfl rfl ?_
    refine ev_iald k222_48 (by decide) (rfl) (by omega) (by omega) ?_
    have rr9 := hJ8.1 6 ((3 + (5 * c)) + 3)
    rw [f8 6 (by decide), f7 6 (by decide), f6 6 (by decide)]
    rw [f8 6 (by decide), f7 6 (by decide), f6 6 (by decide)] at rr9
    refine ev_s1 (L' := [some (vr 0), some (vi c), some (vi 1), none]) (S' := [vr 0, vi (J 6 ((3 + (5 * c)) + 3))]) k222_49 rfl rfl ?_
    refine ev_s1 (L' := [some (vr 0), some (vi c), some (vi 1), none]) (S' := [vi c, vr 0, vi (J 6 ((3 + (5 * c)) + 3))]) k222_50 rfl rfl ?_
    refine ev_virt (a := [vi c]) (S' := [vi (J 6 ((3 + (5 * c)) + 3))]) k222_51 rfl (Nat.le_of_ble_eq_true rfl) (by decide) (rfl) (by omega) ?_
    refine m_plainMark hJ8 (c := c) (by rw [f8 6 (by decide), f7 6 (by decide), f6 6 (by decide)]; exact hw) (by omega) (by rw [f8 6 (by decide), f7 6 (by decide), f6 6 (by decide)]; omega) am8.2.1 (by first | omega | (simp only [List.length_append, List.length_cons, List.length_nil]; omega)) (by rw [f8 6 (by decide), f7 6 (by decide), f6 6 (by decide)]; omega) (by omega) (fun J10 am10 => ?_)
    rw [f8 6 (by decide), f7 6 (by decide), f6 6 (by decide)] at am10
    have hJ10 := am10.1
    have q10 := am10.2.2.1
    have f10 := am10.2.2.2
    rw [f8 6 (by decide), f7 6 (by decide), f6 6 (by decide)]
    show Ev d 222 54 [some (vr 0), some (vi c), some (vi 1), none] [vi (mrkV (J 6 (3 + 5 * c)) (J 6 (3 + 5 * c + 1)) (J 6 (3 + 5 * c + 2))), vi (J 6 ((3 + (5 * c)) + 3))] (SM J10) Q
    refine ev_s1 (L' := [some (vr 0), some (vi c), some (vi 1), none]) (S' := [vi ((J 6 ((3 + (5 * c)) + 3)) + (mrkV (J 6 (3 + 5 * c)) (J 6 (3 + 5 * c + 1)) (J 6 (3 + 5 * c + 2))))]) k222_54 rfl rfl ?_
    refine ev_s1 (L' := [some (vr 0), some (vi c), some (vi 1), some (vi ((J 6 ((3 + (5 * c)) + 3)) + (mrkV (J 6 (3 + 5 * c)) (J 6 (3 + 5 * c + 1)) (J 6 (3 + 5 * c + 2)))))]) (S' := []) k222_55 rfl rfl ?_
    refine ev_s1 (L' := [some (vr 0), some (vi c), some (vi 1), some (vi ((J 6 ((3 + (5 * c)) + 3)) + (mrkV (J 6 (3 + 5 * c)) (J 6 (3 + 5 * c + 1)) (J 6 (3 + 5 * c + 2)))))]) (S' := [vi 1]) k222_56 rfl rfl ?_
    refine ev_z_eq (t := 65) k222_57 rfl (by omega) (by omega) (fun h => absurd h (by decide)) (fun _ => ?_)
    refine ev_s1 (L' := [some (vr 0), some (vi c), some (vi 1), some (vi ((J 6 ((3 + (5 * c)) + 3)) + (mrkV (J 6 (3 + 5 * c)) (J 6 (3 + 5 * c + 1)) (J 6 (3 + 5 * c + 2)))))]) (S' := [vi ((J 6 ((3 + (5 * c)) + 3)) + (mrkV (J 6 (3 + 5 * c)) (J 6 (3 + 5 * c + 1)) (J 6 (3 + 5 * c + 2))))]) k222_60 rfl rfl ?_
    refine ev_s1 (L' := [some (vr 0), some (vi c), some (vi 1), some (vi ((J 6 ((3 + (5 * c)) + 3)) + (mrkV (J 6 (3 + 5 * c)) (J 6 (3 + 5 * c + 1)) (J 6 (3 + 5 * c + 2)))))]) (S' := [vi (-((J 6 ((3 + (5 * c)) + 3)) + (mrkV (J 6 (3 + 5 * c)) (J 6 (3 + 5 * c + 1)) (J 6 (3 + 5 * c + 2)))))]) k222_61 rfl rfl ?_
    refine ev_goto (t := 66) k222_62 rfl ?_
    refine ev_ireturn k222_66 ?_
    rw [if_pos (by omega), if_pos (by omega)] at hQ
    exact hQ _ ⟨hJ10, (by have tt := am10.2.1; simpa only [List.append_assoc, List.cons_append, List.nil_append] using tt), fun b hb => ((q10 b hb).trans ((q8 b hb).trans ((q7 b hb).trans (q6 b hb)))), fun a ha => ((f10 a (by omega)).trans ((f8 a (by omega)).trans ((f7 a (by omega)).trans (f6 a (by omega)))))⟩

set_option maxHeartbeats 1000000 in
theorem m_throneMark {d : Nat} {J : Nat → Int → Int} {Q : Option jV → jS → Prop} (hJ : RZ J) (hw : OKW (J 6)) {c : Int} (c0 : 0 ≤ c) (c1 : c < J 6 1) {l : List Int} (hT : TRo (J 0 23) (J 14) l) (hl : l.length < 5) (hd : 2 ≤ d) (hQ : ∀ J', ASM J J' (l ++ ([23, 20] ++ sizT (J 6 (3 + 5 * c)))) → Q (some (vi (J 6 (3 + 5 * c + 1) - sizU (J 6 (3 + 5 * c)) (J 6 (3 + 5 * c + 3))))) (SM J')) : Cl d 223 [vr 0, vi c] (SM J) Q := by
  have w0 := hw.1
  have w1 := hw.2.1
  have w2 := hw.2.2.1
  obtain ⟨⟨ck0, ck1⟩, ⟨cm0, cm1⟩, ⟨cs0, cs1⟩, ⟨ce0, ce1⟩, -⟩ := hw.2.2.2.1 c c0 c1
  refine ⟨by rw [l223]; exact Nat.le_of_ble_eq_true rfl, ?_⟩
  rw [l223]
  show Ev d 223 0 [some (vr 0), some (vi c)] [] (SM J) Q
  refine ev_s1 (L' := [some (vr 0), some (vi c)]) (S' := [vr 0]) k223_0 rfl rfl ?_
  refine ev_s1 (L' := [some (vr 0), some (vi c)]) (S' := [vi 23, vr 0]) k223_1 rfl rfl ?_
  refine ev_virt (a := [vi 23]) (S' := []) k223_3 rfl (Nat.le_of_ble_eq_true rfl) (by decide) (rfl) (by omega) ?_
  refine m_begins hJ (b := 23) (by decide) (by decide) hT (by first | omega | (simp only [List.length_append, List.length_cons, List.length_nil]; omega)) (fun J1 am1 => ?_)
  have hJ1 := am1.1
  have q1 := am1.2.2.1
  have f1 := am1.2.2.2
  show Ev d 223 6 [some (vr 0), some (vi c)] [] (SM J1) Q
  refine ev_s1 (L' := [some (vr 0), some (vi c)]) (S' := [vr 0]) k223_6 rfl rfl ?_
  refine ev_s1 (L' := [some (vr 0), some (vi c)]) (S' := [vi 20, vr 0]) k223_7 rfl rfl ?_
  refine ev_virt (a := [vi 20]) (S' := []) k223_9 rfl (Nat.le_of_ble_eq_true rfl) (by decide) (rfl) (by omega) ?_
  refine m_begins hJ1 (b := 20) (by decide) (by decide) am1.2.1 (by first | omega | (simp only [List.length_append, List.length_cons, List.length_nil]; omega)) (fun J2 am2 => ?_)
  have hJ2 := am2.1
  have q2 := am2.2.2.1
  have f2 := am2.2.2.2
  show Ev d 223 12 [some (vr 0), some (vi c)] [] (SM J2) Q
  refine ev_s1 (L' := [some (vr 0), some (vi c)]) (S' := [vr 0]) k223_12 rfl rfl ?_
  refine ev_getR k223_13 (by decide) (rfl) (y_0_13) ?_
  refine ev_s1 (L' := [some (vr 0), some (vi c)]) (S' := [vi 3, vr 6]) k223_16 rfl rfl ?_
  refine ev_s1 (L' := [some (vr 0), some (vi c)]) (S' := [vi 5, vi 3, vr 6]) k223_17 rfl rfl ?_
  refine ev_s1 (L' := [some (vr 0), some (vi c)]) (S' := [vi c, vi 5, vi 3, vr 6]) k223_18 rfl rfl ?_
  refine ev_s1 (L' := [some (vr 0), some (vi c)]) (S' := [vi (5 * c), vi 3, vr 6]) k223_19 rfl rfl ?_
  refine ev_s1 (L' := [some (vr 0), some (vi c)]) (S' := [vi (3 + (5 * c)), vr 6]) k223_20 rfl rfl ?_
  refine ev_s1 (L' := [some (vr 0), some (vi c)]) (S' := [vi 1, vi (3 + (5 * c)), vr 6]) k223_21 rfl rfl ?_
  refine ev_s1 (L' := [some (vr 0), some (vi c)]) (S' := [vi ((3 + (5 * c)) + 1), vr 6]) k223_22 rfl rfl ?_
  refine ev_iald k223_23 (by decide) (rfl) (by omega) (by omega) ?_
  have rr3 := hJ2.1 6 ((3 + (5 * c)) + 1)
  rw [f2 6 (by decide), f1 6 (by decide)]
  rw [f2 6 (by decide), f1 6 (by decide)] at rr3
  refine ev_s1 (L' := [some (vr 0), some (vi c)]) (S' := [vr 0, vi (J 6 ((3 + (5 * c)) + 1))]) k223_24 rfl rfl ?_
  refine ev_s1 (L' := [some (vr 0), some (vi c)]) (S' := [vi c, vr 0, vi (J 6 ((3 + (5 * c)) + 1))]) k223_25 rfl rfl ?_
  refine ev_virt (a := [vi c]) (S' := [vi (J 6 ((3 + (5 * c)) + 1))]) k223_26 rfl (Nat.le_of_ble_eq_true rfl) (by decide) (rfl) (by omega) ?_
  refine m_throneSize hJ2 (c := c) (by rw [f2 6 (by decide), f1 6 (by decide)]; exact hw) (by omega) (by rw [f2 6 (by decide), f1 6 (by decide)]; omega) am2.2.1 (by first | omega | (simp only [List.length_append, List.length_cons, List.length_nil]; omega)) (by omega) (fun J4 am4 => ?_)
  rw [f2 6 (by decide), f1 6 (by decide)] at am4
  have hJ4 := am4.1
  have q4 := am4.2.2.1
  have f4 := am4.2.2.2
  rw [f2 6 (by decide), f1 6 (by decide)]
  show Ev d 223 29 [some (vr 0), some (vi c)] [vi (sizU (J 6 (3 + 5 * c)) (J 6 (3 + 5 * c + 3))), vi (J 6 ((3 + (5 * c)) + 1))] (SM J4) Q
  refine ev_s1 (L' := [some (vr 0), some (vi c)]) (S' := [vi ((J 6 ((3 + (5 * c)) + 1)) - (sizU (J 6 (3 + 5 * c)) (J 6 (3 + 5 * c + 3))))]) k223_29 rfl rfl ?_
  refine ev_ireturn k223_30 ?_
  exact hQ _ ⟨hJ4, (by have tt := am4.2.1; simpa only [List.append_assoc, List.cons_append, List.nil_append] using tt), fun b hb => ((q4 b hb).trans ((q2 b hb).trans (q1 b hb))), fun a ha => ((f4 a (by omega)).trans ((f2 a (by omega)).trans (f1 a (by omega))))⟩

set_option maxHeartbeats 1000000 in
theorem m_ask {d : Nat} {J : Nat → Int → Int} {Q : Option jV → jS → Prop} (hJ : RZ J) (hw : OKW (J 6)) {c x : Int} (ca : -2147483648 ≤ c) (cb : c < 2147483648) (xa : -2147483648 ≤ x) (xb : x < 2147483648) (hd : 4 ≤ d) (hB : ¬ ((0 ≤ c ∧ c < J 6 1) ∧ (0 ≤ x ∧ x ≤ 1)) → Q (some (vi (-1000001))) (SM J)) (hQ : ((0 ≤ c ∧ c < J 6 1) ∧ (0 ≤ x ∧ x ≤ 1)) → ∀ J', ASM J J' (if x = 0 then sizL (J 6 (3 + 5 * c)) else marL (J 6 (3 + 5 * c))) → Q (some (vi (if x = 0 then sizV (J 6 (3 + 5 * c)) (J 6 (3 + 5 * c + 1)) (J 6 (3 + 5 * c + 2)) (J 6 (3 + 5 * c + 3)) else marV (J 6 (3 + 5 * c)) (J 6 (3 + 5 * c + 1)) (J 6 (3 + 5 * c + 2)) (J 6 (3 + 5 * c + 3))))) (SM J')) : Cl d 224 [vr 0, vi c, vi x] (SM J) Q := by
  have w0 := hw.1
  have w1 := hw.2.1
  have w2 := hw.2.2.1
  refine ⟨by rw [l224]; exact Nat.le_of_ble_eq_true rfl, ?_⟩
  rw [l224]
  show Ev d 224 0 [some (vr 0), some (vi c), some (vi x), none] [] (SM J) Q
  refine ev_s1 (L' := [some (vr 0), some (vi c), some (vi x), none]) (S' := [vr 0]) k224_0 rfl rfl ?_
  refine ev_s1 (L' := [some (vr 0), some (vi c), some (vi x), none]) (S' := [vi c, vr 0]) k224_1 rfl rfl ?_
  refine ev_virt (a := [vi c]) (S' := []) k224_2 rfl (Nat.le_of_ble_eq_true rfl) (by decide) (rfl) (by omega) ?_
  refine m_isChair hJ (c := c) (by omega) (by omega) (by omega) (by omega) (fun h1 => ?_) (fun h1 => ?_)
  · show Ev d 224 5 [some (vr 0), some (vi c), some (vi x), none] [vi 1] (SM J) Q
    refine ev_z_eq (t := 17) k224_5 rfl (by omega) (by omega) (fun h => absurd h (by decide)) (fun _ => ?_)
    refine ev_s1 (L' := [some (vr 0), some (vi c), some (vi x), none]) (S' := [vi x]) k224_8 rfl rfl ?_
    refine ev_s1 (L' := [some (vr 0), some (vi c), some (vi x), none]) (S' := [vi 0, vi x]) k224_9 rfl rfl ?_
    refine ev_s1 (L' := [some (vr 0), some (vi c), some (vi x), none]) (S' := [vi 1, vi 0, vi x]) k224_10 rfl rfl ?_
    refine ev_static (a := [vi x, vi 0, vi 1]) (S' := []) k224_11 rfl (Nat.le_of_ble_eq_true rfl) (by omega) ?_
    refine m_in (v := x) (lo := 0) (hi := 1) (by omega) (by omega) (by omega) (by omega) (by omega) (by omega) (fun h2 => ?_) (fun h2 => ?_)
    · show Ev d 224 14 [some (vr 0), some (vi c), some (vi x), none] [vi 1] (SM J) Q
      refine ev_z_ne (t := 20) k224_14 rfl (by omega) (by omega) (fun _ => ?_) (fun h => absurd h (by decide))
      refine ev_s1 (L' := [some (vr 0), some (vi c), some (vi x), none]) (S' := [vr 0]) k224_20 rfl rfl ?_
      refine ev_s1 (L' := [some (vr 0), some (vi c), some (vi x), none]) (S' := [vi 0, vr 0]) k224_21 rfl rfl ?_
      refine ev_putI k224_22 (by decide) (rfl) ?_
      show Ev d 224 25 [some (vr 0), some (vi c), some (vi x), none] [] (SM (up J 0 23 0)) Q
      have hJ3 := rz_up hJ (k := 0) (j := 23) (z := 0) (by omega) (by omega) (by omega)
      have g3 : ∀ aa, aa ≠ 0 → up J 0 23 0 aa = J aa := fun aa h => upf h
      have q3 : ∀ bb, bb ≠ 23 → up J 0 23 0 0 bb = J 0 bb := fun bb h => upN (Or.inr h)
      have e3 : up J 0 23 0 0 23 = 0 := upE rfl rfl
      generalize up J 0 23 0 = J3 at hJ3 g3 q3 e3 ⊢
      have hT : TRo (J3 0 23) (J3 14) [] := ⟨e3.trans rfl, fun i hi => absurd hi (Nat.not_lt_zero i)⟩
      refine ev_s1 (L' := [some (vr 0), some (vi c), some (vi x), none]) (S' := [vr 0]) k224_25 rfl rfl ?_
      refine ev_s1 (L' := [some (vr 0), some (vi c), some (vi x), none]) (S' := [vi c, vr 0]) k224_26 rfl rfl ?_
      refine ev_virt (a := [vi c]) (S' := []) k224_27 rfl (Nat.le_of_ble_eq_true rfl) (by decide) (rfl) (by omega) ?_
      refine m_kindIn hJ3 (c := c) (by omega) (by omega) (?_)
      rw [g3 6 (by decide)]
      have kr27 := (hw.2.2.2.1 c (by omega) (by omega)).1
      show Ev d 224 30 [some (vr 0), some (vi c), some (vi x), none] [vi (J 6 (3 + (5 * c)))] (SM J3) Q
      refine ev_s1 (L' := [some (vr 0), some (vi c), some (vi x), none]) (S' := [vi 4, vi (J 6 (3 + (5 * c)))]) k224_30 rfl rfl ?_
      refine ev_c_lt (t := 38) k224_31 rfl (by omega) (by omega) (by omega) (by omega) (fun h4 => ?_) (fun h4 => ?_)
      · refine ev_s1 (L' := [some (vr 0), some (vi c), some (vi x), none]) (S' := [vi 0]) k224_38 rfl rfl ?_
        refine ev_s1 (L' := [some (vr 0), some (vi c), some (vi x), some (vi 0)]) (S' := []) k224_39 rfl rfl ?_
        refine ev_s1 (L' := [some (vr 0), some (vi c), some (vi x), some (vi 0)]) (S' := [vi x]) k224_40 rfl rfl ?_
        refine ev_z_ne (t := 62) k224_41 rfl (by omega) (by omega) (fun h5 => ?_) (fun h5 => ?_)
        · refine ev_s1 (L' := [some (vr 0), some (vi c), some (vi x), some (vi 0)]) (S' := [vi 0]) k224_62 rfl rfl ?_
          refine ev_z_eq (t := 74) k224_63 rfl (by omega) (by omega) (fun _ => ?_) (fun h => absurd h (by decide))
          refine ev_s1 (L' := [some (vr 0), some (vi c), some (vi x), some (vi 0)]) (S' := [vr 0]) k224_74 rfl rfl ?_
          refine ev_s1 (L' := [some (vr 0), some (vi c), some (vi x), some (vi 0)]) (S' := [vi c, vr 0]) k224_75 rfl rfl ?_
          refine ev_virt (a := [vi c]) (S' := []) k224_76 rfl (Nat.le_of_ble_eq_true rfl) (by decide) (rfl) (by omega) ?_
          refine m_plainMark hJ3 (c := c) (by rw [g3 6 (by decide)]; exact hw) (by omega) (by rw [g3 6 (by decide)]; omega) hT (by first | omega | (simp only [List.length_append, List.length_cons, List.length_nil]; omega)) (by rw [g3 6 (by decide)]; omega) (by omega) (fun J6 am6 => ?_)
          rw [g3 6 (by decide)] at am6
          have hJ6 := am6.1
          have q6 := am6.2.2.1
          have f6 := am6.2.2.2
          rw [g3 6 (by decide)]
          show Ev d 224 79 [some (vr 0), some (vi c), some (vi x), some (vi 0)] [vi (mrkV (J 6 (3 + 5 * c)) (J 6 (3 + 5 * c + 1)) (J 6 (3 + 5 * c + 2)))] (SM J6) Q
          refine ev_ireturn k224_79 ?_
          rw [if_neg (by omega), if_neg (by omega)] at hQ
          unfold marL marV at hQ
          rw [if_pos (show J 6 (3 + 5 * c) ≤ 3 by omega), if_pos (show J 6 (3 + 5 * c) ≤ 3 by omega)] at hQ
          exact hQ (by omega) _ ⟨hJ6, (by have tt := am6.2.1; simpa only [List.append_assoc, List.cons_append, List.nil_append] using tt), fun b hb => ((q6 b hb).trans (q3 b hb)), fun a ha => ((f6 a (by omega)).trans (g3 a (by omega)))⟩
        · refine ev_s1 (L' := [some (vr 0), some (vi c), some (vi x), some (vi 0)]) (S' := [vi 0]) k224_44 rfl rfl ?_
          refine ev_z_eq (t := 56) k224_45 rfl (by omega) (by omega) (fun _ => ?_) (fun h => absurd h (by decide))
          refine ev_s1 (L' := [some (vr 0), some (vi c), some (vi x), some (vi 0)]) (S' := [vr 0]) k224_56 rfl rfl ?_
          refine ev_s1 (L' := [some (vr 0), some (vi c), some (vi x), some (vi 0)]) (S' := [vi c, vr 0]) k224_57 rfl rfl ?_
          refine ev_virt (a := [vi c]) (S' := []) k224_58 rfl (Nat.le_of_ble_eq_true rfl) (by decide) (rfl) (by omega) ?_
          refine m_plainSize hJ3 (c := c) (by rw [g3 6 (by decide)]; exact hw) (by omega) (by rw [g3 6 (by decide)]; omega) hT (by first | omega | (simp only [List.length_append, List.length_cons, List.length_nil]; omega)) (by rw [g3 6 (by decide)]; omega) (by omega) (fun J7 am7 => ?_)
          rw [g3 6 (by decide)] at am7
          have hJ7 := am7.1
          have q7 := am7.2.2.1
          have f7 := am7.2.2.2
          rw [g3 6 (by decide)]
          show Ev d 224 61 [some (vr 0), some (vi c), some (vi x), some (vi 0)] [vi (if J 6 (3 + 5 * c) = 2 then -(J 6 (3 + 5 * c + 3) + mrkV (J 6 (3 + 5 * c)) (J 6 (3 + 5 * c + 1)) (J 6 (3 + 5 * c + 2))) else J 6 (3 + 5 * c + 3) + mrkV (J 6 (3 + 5 * c)) (J 6 (3 + 5 * c + 1)) (J 6 (3 + 5 * c + 2)))] (SM J7) Q
          refine ev_ireturn k224_61 ?_
          rw [if_pos (by omega), if_pos (by omega)] at hQ
          unfold sizL sizV at hQ
          rw [if_pos (show J 6 (3 + 5 * c) ≤ 3 by omega), if_pos (show J 6 (3 + 5 * c) ≤ 3 by omega)] at hQ
          exact hQ (by omega) _ ⟨hJ7, (by have tt := am7.2.1; simpa only [List.append_assoc, List.cons_append, List.nil_append] using tt), fun b hb => ((q7 b hb).trans (q3 b hb)), fun a ha => ((f7 a (by omega)).trans (g3 a (by omega)))⟩
      · refine ev_s1 (L' := [some (vr 0), some (vi c), some (vi x), none]) (S' := [vi 1]) k224_34 rfl rfl ?_
        refine ev_goto (t := 39) k224_35 rfl ?_
        refine ev_s1 (L' := [some (vr 0), some (vi c), some (vi x), some (vi 1)]) (S' := []) k224_39 rfl rfl ?_
        refine ev_s1 (L' := [some (vr 0), some (vi c), some (vi x), some (vi 1)]) (S' := [vi x]) k224_40 rfl rfl ?_
        refine ev_z_ne (t := 62) k224_41 rfl (by omega) (by omega) (fun h8 => ?_) (fun h8 => ?_)
        · refine ev_s1 (L' := [some (vr 0), some (vi c), some (vi x), some (vi 1)]) (S' := [vi 1]) k224_62 rfl rfl ?_
          refine ev_z_eq (t := 74) k224_63 rfl (by omega) (by omega) (fun h => absurd h (by decide)) (fun _ => ?_)
          refine ev_s1 (L' := [some (vr 0), some (vi c), some (vi x), some (vi 1)]) (S' := [vr 0]) k224_66 rfl rfl ?_
          refine ev_s1 (L' := [some (vr 0), some (vi c), some (vi x), some (vi 1)]) (S' := [vi c, vr 0]) k224_67 rfl rfl ?_
          refine ev_virt (a := [vi c]) (S' := []) k224_68 rfl (Nat.le_of_ble_eq_true rfl) (by decide) (rfl) (by omega) ?_
          refine m_throneMark hJ3 (c := c) (by rw [g3 6 (by decide)]; exact hw) (by omega) (by rw [g3 6 (by decide)]; omega) hT (by first | omega | (simp only [List.length_append, List.length_cons, List.length_nil]; omega)) (by omega) (fun J9 am9 => ?_)
          rw [g3 6 (by decide)] at am9
          have hJ9 := am9.1
          have q9 := am9.2.2.1
          have f9 := am9.2.2.2
          rw [g3 6 (by decide)]
          show Ev d 224 71 [some (vr 0), some (vi c), some (vi x), some (vi 1)] [vi (J 6 (3 + 5 * c + 1) - sizU (J 6 (3 + 5 * c)) (J 6 (3 + 5 * c + 3)))] (SM J9) Q
          refine ev_goto (t := 79) k224_71 rfl ?_
          refine ev_ireturn k224_79 ?_
          rw [if_neg (by omega), if_neg (by omega)] at hQ
          unfold marL marV at hQ
          rw [if_neg (show ¬ J 6 (3 + 5 * c) ≤ 3 by omega), if_neg (show ¬ J 6 (3 + 5 * c) ≤ 3 by omega)] at hQ
          exact hQ (by omega) _ ⟨hJ9, (by have tt := am9.2.1; simpa only [List.append_assoc, List.cons_append, List.nil_append] using tt), fun b hb => ((q9 b hb).trans (q3 b hb)), fun a ha => ((f9 a (by omega)).trans (g3 a (by omega)))⟩
        · refine ev_s1 (L' := [some (vr 0), some (vi c), some (vi x), some (vi 1)]) (S' := [vi 1]) k224_44 rfl rfl ?_
          refine ev_z_eq (t := 56) k224_45 rfl (by omega) (by omega) (fun h => absurd h (by decide)) (fun _ => ?_)
          refine ev_s1 (L' := [some (vr 0), some (vi c), some (vi x), some (vi 1)]) (S' := [vr 0]) k224_48 rfl rfl ?_
          refine ev_s1 (L' := [some (vr 0), some (vi c), some (vi x), some (vi 1)]) (S' := [vi c, vr 0]) k224_49 rfl rfl ?_
          refine ev_virt (a := [vi c]) (S' := []) k224_50 rfl (Nat.le_of_ble_eq_true rfl) (by decide) (rfl) (by omega) ?_
          refine m_throneSize hJ3 (c := c) (by rw [g3 6 (by decide)]; exact hw) (by omega) (by rw [g3 6 (by decide)]; omega) hT (by first | omega | (simp only [List.length_append, List.length_cons, List.length_nil]; omega)) (by omega) (fun J10 am10 => ?_)
          rw [g3 6 (by decide)] at am10
          have hJ10 := am10.1
          have q10 := am10.2.2.1
          have f10 := am10.2.2.2
          rw [g3 6 (by decide)]
          show Ev d 224 53 [some (vr 0), some (vi c), some (vi x), some (vi 1)] [vi (sizU (J 6 (3 + 5 * c)) (J 6 (3 + 5 * c + 3)))] (SM J10) Q
          refine ev_goto (t := 61) k224_53 rfl ?_
          refine ev_ireturn k224_61 ?_
          rw [if_pos (by omega), if_pos (by omega)] at hQ
          unfold sizL sizV at hQ
          rw [if_neg (show ¬ J 6 (3 + 5 * c) ≤ 3 by omega), if_neg (show ¬ J 6 (3 + 5 * c) ≤ 3 by omega)] at hQ
          exact hQ (by omega) _ ⟨hJ10, (by have tt := am10.2.1; simpa only [List.append_assoc, List.cons_append, List.nil_append] using tt), fun b hb => ((q10 b hb).trans (q3 b hb)), fun a ha => ((f10 a (by omega)).trans (g3 a (by omega)))⟩
    · show Ev d 224 14 [some (vr 0), some (vi c), some (vi x), none] [vi 0] (SM J) Q
      refine ev_z_ne (t := 20) k224_14 rfl (by omega) (by omega) (fun h => absurd h (by decide)) (fun _ => ?_)
      refine ev_ldc k224_17 ?_
      refine ev_ireturn k224_19 ?_
      exact hB (by omega)
  · show Ev d 224 5 [some (vr 0), some (vi c), some (vi x), none] [vi 0] (SM J) Q
    refine ev_z_eq (t := 17) k224_5 rfl (by omega) (by omega) (fun _ => ?_) (fun h => absurd h (by decide))
    refine ev_ldc k224_17 ?_
    refine ev_ireturn k224_19 ?_
    exact hB (by omega)

set_option maxHeartbeats 1000000 in
theorem m_trace {d : Nat} {J : Nat → Int → Int} {Q : Option jV → jS → Prop} (hJ : RZ J) {i : Int} (ia : -2147483648 ≤ i) (ib : i < 2147483648) (t0 : 0 ≤ J 0 23) (t1 : J 0 23 ≤ 16) (hd : 1 ≤ d) (hQ : (0 ≤ i ∧ i < J 0 23) → Q (some (vi (J 14 i))) (SM J)) (hF : ¬ (0 ≤ i ∧ i < J 0 23) → Q (some (vi (-1000000))) (SM J)) : Cl d 225 [vr 0, vi i] (SM J) Q := by
  refine ⟨by rw [l225]; exact Nat.le_of_ble_eq_true rfl, ?_⟩
  rw [l225]
  show Ev d 225 0 [some (vr 0), some (vi i)] [] (SM J) Q
  refine ev_s1 (L' := [some (vr 0), some (vi i)]) (S' := [vi i]) k225_0 rfl rfl ?_
  refine ev_s1 (L' := [some (vr 0), some (vi i)]) (S' := [vi 0, vi i]) k225_1 rfl rfl ?_
  refine ev_s1 (L' := [some (vr 0), some (vi i)]) (S' := [vr 0, vi 0, vi i]) k225_2 rfl rfl ?_
  refine ev_getI k225_3 (by decide) (rfl) ?_
  show Ev d 225 6 [some (vr 0), some (vi i)] [vi (J 0 23), vi 0, vi i] (SM J) Q
  have rr1 := hJ.1 0 23
  refine ev_s1 (L' := [some (vr 0), some (vi i)]) (S' := [vi 1, vi (J 0 23), vi 0, vi i]) k225_6 rfl rfl ?_
  refine ev_s1 (L' := [some (vr 0), some (vi i)]) (S' := [vi ((J 0 23) - 1), vi 0, vi i]) k225_7 rfl rfl ?_
  refine ev_static (a := [vi i, vi 0, vi ((J 0 23) - 1)]) (S' := []) k225_8 rfl (Nat.le_of_ble_eq_true rfl) (by omega) ?_
  refine m_in (v := i) (lo := 0) (hi := (J 0 23) - 1) (by omega) (by omega) (by omega) (by omega) (by omega) (by omega) (fun h2 => ?_) (fun h2 => ?_)
  · show Ev d 225 11 [some (vr 0), some (vi i)] [vi 1] (SM J) Q
    refine ev_z_eq (t := 23) k225_11 rfl (by omega) (by omega) (fun h => absurd h (by decide)) (fun _ => ?_)
    refine ev_s1 (L' := [some (vr 0), some (vi i)]) (S' := [vr 0]) k225_14 rfl rfl ?_
    refine ev_getR k225_15 (by decide) (rfl) (y_0_22) ?_
    refine ev_s1 (L' := [some (vr 0), some (vi i)]) (S' := [vi i, vr 14]) k225_18 rfl rfl ?_
    refine ev_iald k225_19 (by decide) (rfl) (by omega) (by omega) ?_
    have rr3 := hJ.1 14 i
    refine ev_goto (t := 25) k225_20 rfl ?_
    refine ev_ireturn k225_25 ?_
    exact hQ (by omega)
  · show Ev d 225 11 [some (vr 0), some (vi i)] [vi 0] (SM J) Q
    refine ev_z_eq (t := 23) k225_11 rfl (by omega) (by omega) (fun _ => ?_) (fun h => absurd h (by decide))
    refine ev_ldc k225_23 ?_
    refine ev_ireturn k225_25 ?_
    exact hF (by omega)

set_option maxHeartbeats 1000000 in
theorem m_sitg {d : Nat} {J : Nat → Int → Int} {Q : Option jV → jS → Prop} (hJ : RZ J) (hw : OKW (J 6)) (hQ : Q (some (vi (seaW (J 6)))) (SM J)) : ∀ (n : Nat) (i : Nat) (t : Int), J 6 2 - i < n → (i : Int) ≤ J 6 2 → t = bitsF (fun g => decide (J 6 (28 + 4 * g + 2) ≠ 0)) i → Ev d 226 4 [some (vr 0), some (vi t), some (vi (i : Int))] [] (SM J) Q := by
  intro n
  induction n with
  | zero =>
    intro i t hi hi2 ht
    have w2 := hw.2.2.1
    exfalso; omega
  | succ n ih =>
    intro i t hi hi2 ht
    have w1 := hw.2.1
    have w2 := hw.2.2.1
    have wat := fun h : (i : Int) < J 6 2 => (hw.2.2.2.2.1 (i : Int) (by omega) h).2.2.1
    refine ev_s1 (L' := [some (vr 0), some (vi t), some (vi (i : Int))]) (S' := [vi (i : Int)]) k226_4 rfl rfl ?_
    refine ev_s1 (L' := [some (vr 0), some (vi t), some (vi (i : Int))]) (S' := [vr 0, vi (i : Int)]) k226_5 rfl rfl ?_
    refine ev_getR k226_6 (by decide) (rfl) (y_0_13) ?_
    refine ev_s1 (L' := [some (vr 0), some (vi t), some (vi (i : Int))]) (S' := [vi 2, vr 6, vi (i : Int)]) k226_9 rfl rfl ?_
    refine ev_iald k226_10 (by decide) (rfl) (by omega) (by omega) ?_
    have rr1 := hJ.1 6 2
    refine ev_c_ge (t := 46) k226_11 rfl (by omega) (by omega) (by omega) (by omega) (fun h2 => ?_) (fun h2 => ?_)
    · refine ev_s1 (L' := [some (vr 0), some (vi t), some (vi (i : Int))]) (S' := [vi t]) k226_46 rfl rfl ?_
      refine ev_ireturn k226_47 ?_
      unfold seaW at hQ
      rw [show (J 6 2).toNat = i by omega, ← ht] at hQ
      exact hQ
    · have wa := wat (by omega)
      refine ev_s1 (L' := [some (vr 0), some (vi t), some (vi (i : Int))]) (S' := [vi t]) k226_14 rfl rfl ?_
      refine ev_s1 (L' := [some (vr 0), some (vi t), some (vi (i : Int))]) (S' := [vr 0, vi t]) k226_15 rfl rfl ?_
      refine ev_getR k226_16 (by decide) (rfl) (y_0_13) ?_
      refine ev_s1 (L' := [some (vr 0), some (vi t), some (vi (i : Int))]) (S' := [vi 28, vr 6, vi t]) k226_19 rfl rfl ?_
      refine ev_s1 (L' := [some (vr 0), some (vi t), some (vi (i : Int))]) (S' := [vi 4, vi 28, vr 6, vi t]) k226_21 rfl rfl ?_
      refine ev_s1 (L' := [some (vr 0), some (vi t), some (vi (i : Int))]) (S' := [vi (i : Int), vi 4, vi 28, vr 6, vi t]) k226_22 rfl rfl ?_
      refine ev_s1 (L' := [some (vr 0), some (vi t), some (vi (i : Int))]) (S' := [vi (4 * (i : Int)), vi 28, vr 6, vi t]) k226_23 rfl rfl ?_
      refine ev_s1 (L' := [some (vr 0), some (vi t), some (vi (i : Int))]) (S' := [vi (28 + (4 * (i : Int))), vr 6, vi t]) k226_24 rfl rfl ?_
      refine ev_s1 (L' := [some (vr 0), some (vi t), some (vi (i : Int))]) (S' := [vi 2, vi (28 + (4 * (i : Int))), vr 6, vi t]) k226_25 rfl rfl ?_
      refine ev_s1 (L' := [some (vr 0), some (vi t), some (vi (i : Int))]) (S' := [vi ((28 + (4 * (i : Int))) + 2), vr 6, vi t]) k226_26 rfl rfl ?_
      refine ev_iald k226_27 (by decide) (rfl) (by omega) (by omega) ?_
      have rr3 := hJ.1 6 ((28 + (4 * (i : Int))) + 2)
      refine ev_z_le (t := 37) k226_28 rfl (by omega) (by omega) (fun h4 => ?_) (fun h4 => ?_)
      · refine ev_s1 (L' := [some (vr 0), some (vi t), some (vi (i : Int))]) (S' := [vi 0, vi t]) k226_37 rfl rfl ?_
        refine ev_ior k226_38 (by have := bits_lt (fun g => decide (J 6 (28 + 4 * g + 2) ≠ 0)) (n := i) (by omega); omega) (by have := bits_lt (fun g => decide (J 6 (28 + 4 * g + 2) ≠ 0)) (n := i) (by omega); omega) (by first | decide | exact (p2_rng i (by omega)).1) (by first | decide | exact (p2_rng i (by omega)).2) ?_
        refine ev_s1 (L' := [some (vr 0), some (vi ((Int.toNat t ||| Int.toNat 0 : Nat) : Int)), some (vi (i : Int))]) (S' := []) k226_39 rfl rfl ?_
        refine ev_s1 (L' := [some (vr 0), some (vi ((Int.toNat t ||| Int.toNat 0 : Nat) : Int)), some (vi ((i : Int) + 1))]) (S' := []) k226_40 rfl rfl ?_
        refine ev_goto (t := 4) k226_43 rfl ?_
        exact ih (i + 1) _ (by omega) (by omega) (by rw [bits_f (p := (fun g => decide (J 6 (28 + 4 * g + 2) ≠ 0))) (decide_eq_false (by omega)), ← ht]; exact or0 (by have := bits_lt (fun g => decide (J 6 (28 + 4 * g + 2) ≠ 0)) (n := i) (by omega); omega))
      · refine ev_s1 (L' := [some (vr 0), some (vi t), some (vi (i : Int))]) (S' := [vi 1, vi t]) k226_31 rfl rfl ?_
        refine ev_s1 (L' := [some (vr 0), some (vi t), some (vi (i : Int))]) (S' := [vi (i : Int), vi 1, vi t]) k226_32 rfl rfl ?_
        refine ev_ishl k226_33 (by omega) (by omega) ?_
        refine ev_goto (t := 38) k226_34 rfl ?_
        refine ev_ior k226_38 (by have := bits_lt (fun g => decide (J 6 (28 + 4 * g + 2) ≠ 0)) (n := i) (by omega); omega) (by have := bits_lt (fun g => decide (J 6 (28 + 4 * g + 2) ≠ 0)) (n := i) (by omega); omega) (by first | decide | exact (p2_rng i (by omega)).1) (by first | decide | exact (p2_rng i (by omega)).2) ?_
        refine ev_s1 (L' := [some (vr 0), some (vi ((Int.toNat t ||| Int.toNat (1 * 2 ^ Int.toNat (i : Int)) : Nat) : Int)), some (vi (i : Int))]) (S' := []) k226_39 rfl rfl ?_
        refine ev_s1 (L' := [some (vr 0), some (vi ((Int.toNat t ||| Int.toNat (1 * 2 ^ Int.toNat (i : Int)) : Nat) : Int)), some (vi ((i : Int) + 1))]) (S' := []) k226_40 rfl rfl ?_
        refine ev_goto (t := 4) k226_43 rfl ?_
        exact ih (i + 1) _ (by omega) (by omega) (by rw [bits_t (p := (fun g => decide (J 6 (28 + 4 * g + 2) ≠ 0))) (decide_eq_true (by omega)), ← ht]; rfl)

set_option maxHeartbeats 1000000 in
theorem m_sitting {d : Nat} {J : Nat → Int → Int} {Q : Option jV → jS → Prop} (hJ : RZ J) (hw : OKW (J 6)) (hQ : Q (some (vi (seaW (J 6)))) (SM J)) : Cl d 226 [vr 0] (SM J) Q := by
  refine ⟨by rw [l226]; exact Nat.le_of_ble_eq_true rfl, ?_⟩
  rw [l226]
  show Ev d 226 0 [some (vr 0), none, none] [] (SM J) Q
  refine ev_s1 (L' := [some (vr 0), none, none]) (S' := [vi 0]) k226_0 rfl rfl ?_
  refine ev_s1 (L' := [some (vr 0), some (vi 0), none]) (S' := []) k226_1 rfl rfl ?_
  refine ev_s1 (L' := [some (vr 0), some (vi 0), none]) (S' := [vi 0]) k226_2 rfl rfl ?_
  refine ev_s1 (L' := [some (vr 0), some (vi 0), some (vi 0)]) (S' := []) k226_3 rfl rfl ?_
  exact m_sitg hJ hw hQ 6 0 0 (by have := hw.2.2.1; omega) (by have := hw.2.2.1; omega) rfl

set_option maxHeartbeats 1000000 in
theorem m_takl {d : Nat} {J : Nat → Int → Int} {Q : Option jV → jS → Prop} (hJ : RZ J) (hw : OKW (J 6)) (hd : 1 ≤ d) (hQ : Q (some (vi (takW (J 6)))) (SM J)) : ∀ (n : Nat) (i : Nat) (t : Int), J 6 1 - i < n → (i : Int) ≤ J 6 1 → t = bitsF (fun c => decide (sitW (J 6) c ≠ -1000000)) i → Ev d 227 4 [some (vr 0), some (vi t), some (vi (i : Int))] [] (SM J) Q := by
  intro n
  induction n with
  | zero =>
    intro i t hi hi2 ht
    have w1 := hw.2.1
    exfalso; omega
  | succ n ih =>
    intro i t hi hi2 ht
    have w1 := hw.2.1
    have w2 := hw.2.2.1
    refine ev_s1 (L' := [some (vr 0), some (vi t), some (vi (i : Int))]) (S' := [vi (i : Int)]) k227_4 rfl rfl ?_
    refine ev_s1 (L' := [some (vr 0), some (vi t), some (vi (i : Int))]) (S' := [vr 0, vi (i : Int)]) k227_5 rfl rfl ?_
    refine ev_getR k227_6 (by decide) (rfl) (y_0_13) ?_
    refine ev_s1 (L' := [some (vr 0), some (vi t), some (vi (i : Int))]) (S' := [vi 1, vr 6, vi (i : Int)]) k227_9 rfl rfl ?_
    refine ev_iald k227_10 (by decide) (rfl) (by omega) (by omega) ?_
    have rr1 := hJ.1 6 1
    refine ev_c_ge (t := 43) k227_11 rfl (by omega) (by omega) (by omega) (by omega) (fun h2 => ?_) (fun h2 => ?_)
    · refine ev_s1 (L' := [some (vr 0), some (vi t), some (vi (i : Int))]) (S' := [vi t]) k227_43 rfl rfl ?_
      refine ev_ireturn k227_44 ?_
      unfold takW at hQ
      rw [show (J 6 1).toNat = i by omega, ← ht] at hQ
      exact hQ
    · refine ev_s1 (L' := [some (vr 0), some (vi t), some (vi (i : Int))]) (S' := [vi t]) k227_14 rfl rfl ?_
      refine ev_s1 (L' := [some (vr 0), some (vi t), some (vi (i : Int))]) (S' := [vr 0, vi t]) k227_15 rfl rfl ?_
      refine ev_getR k227_16 (by decide) (rfl) (y_0_13) ?_
      refine ev_s1 (L' := [some (vr 0), some (vi t), some (vi (i : Int))]) (S' := [vi (i : Int), vr 6, vi t]) k227_19 rfl rfl ?_
      refine ev_static (a := [vr 6, vi (i : Int)]) (S' := [vi t]) k227_20 rfl (Nat.le_of_ble_eq_true rfl) (by omega) ?_
      refine m_sitter hJ (k := 6) (by decide) (c := (i : Int)) (by omega) (by omega) (by omega) (by omega) (?_)
      have sr20 := sit_rng (J 6) (i : Int) (by omega)
      show Ev d 227 23 [some (vr 0), some (vi t), some (vi (i : Int))] [vi (sitW (J 6) (i : Int)), vi t] (SM J) Q
      refine ev_ldc k227_23 ?_
      refine ev_c_ne (t := 32) k227_25 rfl (by omega) (by omega) (by omega) (by omega) (fun h3 => ?_) (fun h3 => ?_)
      · refine ev_s1 (L' := [some (vr 0), some (vi t), some (vi (i : Int))]) (S' := [vi 1, vi t]) k227_32 rfl rfl ?_
        refine ev_s1 (L' := [some (vr 0), some (vi t), some (vi (i : Int))]) (S' := [vi (i : Int), vi 1, vi t]) k227_33 rfl rfl ?_
        refine ev_ishl k227_34 (by omega) (by omega) ?_
        refine ev_ior k227_35 (by have := bits_lt (fun c => decide (sitW (J 6) c ≠ -1000000)) (n := i) (by omega); omega) (by have := bits_lt (fun c => decide (sitW (J 6) c ≠ -1000000)) (n := i) (by omega); omega) (by first | decide | exact (p2_rng i (by omega)).1) (by first | decide | exact (p2_rng i (by omega)).2) ?_
        refine ev_s1 (L' := [some (vr 0), some (vi ((Int.toNat t ||| Int.toNat (1 * 2 ^ Int.toNat (i : Int)) : Nat) : Int)), some (vi (i : Int))]) (S' := []) k227_36 rfl rfl ?_
        refine ev_s1 (L' := [some (vr 0), some (vi ((Int.toNat t ||| Int.toNat (1 * 2 ^ Int.toNat (i : Int)) : Nat) : Int)), some (vi ((i : Int) + 1))]) (S' := []) k227_37 rfl rfl ?_
        refine ev_goto (t := 4) k227_40 rfl ?_
        exact ih (i + 1) _ (by omega) (by omega) (by rw [bits_t (p := (fun c => decide (sitW (J 6) c ≠ -1000000))) (decide_eq_true (by omega)), ← ht]; rfl)
      · refine ev_s1 (L' := [some (vr 0), some (vi t), some (vi (i : Int))]) (S' := [vi 0, vi t]) k227_28 rfl rfl ?_
        refine ev_goto (t := 35) k227_29 rfl ?_
        refine ev_ior k227_35 (by have := bits_lt (fun c => decide (sitW (J 6) c ≠ -1000000)) (n := i) (by omega); omega) (by have := bits_lt (fun c => decide (sitW (J 6) c ≠ -1000000)) (n := i) (by omega); omega) (by first | decide | exact (p2_rng i (by omega)).1) (by first | decide | exact (p2_rng i (by omega)).2) ?_
        refine ev_s1 (L' := [some (vr 0), some (vi ((Int.toNat t ||| Int.toNat 0 : Nat) : Int)), some (vi (i : Int))]) (S' := []) k227_36 rfl rfl ?_
        refine ev_s1 (L' := [some (vr 0), some (vi ((Int.toNat t ||| Int.toNat 0 : Nat) : Int)), some (vi ((i : Int) + 1))]) (S' := []) k227_37 rfl rfl ?_
        refine ev_goto (t := 4) k227_40 rfl ?_
        exact ih (i + 1) _ (by omega) (by omega) (by rw [bits_f (p := (fun c => decide (sitW (J 6) c ≠ -1000000))) (decide_eq_false (by omega)), ← ht]; exact or0 (by have := bits_lt (fun c => decide (sitW (J 6) c ≠ -1000000)) (n := i) (by omega); omega))

set_option maxHeartbeats 1000000 in
theorem m_taken {d : Nat} {J : Nat → Int → Int} {Q : Option jV → jS → Prop} (hJ : RZ J) (hw : OKW (J 6)) (hd : 1 ≤ d) (hQ : Q (some (vi (takW (J 6)))) (SM J)) : Cl d 227 [vr 0] (SM J) Q := by
  refine ⟨by rw [l227]; exact Nat.le_of_ble_eq_true rfl, ?_⟩
  rw [l227]
  show Ev d 227 0 [some (vr 0), none, none] [] (SM J) Q
  refine ev_s1 (L' := [some (vr 0), none, none]) (S' := [vi 0]) k227_0 rfl rfl ?_
  refine ev_s1 (L' := [some (vr 0), some (vi 0), none]) (S' := []) k227_1 rfl rfl ?_
  refine ev_s1 (L' := [some (vr 0), some (vi 0), none]) (S' := [vi 0]) k227_2 rfl rfl ?_
  refine ev_s1 (L' := [some (vr 0), some (vi 0), some (vi 0)]) (S' := []) k227_3 rfl rfl ?_
  exact m_takl hJ hw hd hQ 6 0 0 (by have := hw.2.1; omega) (by have := hw.2.1; omega) rfl

set_option maxHeartbeats 1000000 in
theorem m_cnt0 {d : Nat} {J : Nat → Int → Int} {Q : Option jV → jS → Prop} (hJ : RZ J) {x : Int} (hd : 1 ≤ d) (hQ : Q (some (vi (cntF (fun r => decide (J 1 r ≠ -1000000)) 8))) (SM J)) : ∀ (n : Nat) (i : Nat) (t : Int), 8 - (i : Int) < n → i ≤ 8 → t = cntF (fun r => decide (J 1 r ≠ -1000000)) i → Ev d 228 50 [some (vr 0), some (vi x), some (vi t), some (vi (i : Int))] [] (SM J) Q := by
  intro n
  induction n with
  | zero =>
    intro i t hi hi2 ht
    exfalso; omega
  | succ n ih =>
    intro i t hi hi2 ht
    refine ev_s1 (L' := [some (vr 0), some (vi x), some (vi t), some (vi (i : Int))]) (S' := [vi (i : Int)]) k228_50 rfl rfl ?_
    refine ev_s1 (L' := [some (vr 0), some (vi x), some (vi t), some (vi (i : Int))]) (S' := [vi 8, vi (i : Int)]) k228_51 rfl rfl ?_
    refine ev_c_ge (t := 78) k228_53 rfl (by omega) (by omega) (by omega) (by omega) (fun h1 => ?_) (fun h1 => ?_)
    · refine ev_s1 (L' := [some (vr 0), some (vi x), some (vi t), some (vi (i : Int))]) (S' := [vi t]) k228_78 rfl rfl ?_
      refine ev_ireturn k228_79 ?_
      rw [show i = 8 by omega] at ht
      rw [← ht] at hQ
      exact hQ
    · refine ev_s1 (L' := [some (vr 0), some (vi x), some (vi t), some (vi (i : Int))]) (S' := [vi t]) k228_56 rfl rfl ?_
      refine ev_s1 (L' := [some (vr 0), some (vi x), some (vi t), some (vi (i : Int))]) (S' := [vr 0, vi t]) k228_57 rfl rfl ?_
      refine ev_s1 (L' := [some (vr 0), some (vi x), some (vi t), some (vi (i : Int))]) (S' := [vi (i : Int), vr 0, vi t]) k228_58 rfl rfl ?_
      refine ev_virt (a := [vi (i : Int)]) (S' := [vi t]) k228_59 rfl (Nat.le_of_ble_eq_true rfl) (by decide) (rfl) (by omega) ?_
      refine m_isMissing hJ (r := (i : Int)) (by omega) (by omega) (fun h2 => ?_) (fun h2 => ?_)
      · show Ev d 228 62 [some (vr 0), some (vi x), some (vi t), some (vi (i : Int))] [vi 1, vi t] (SM J) Q
        refine ev_z_eq (t := 69) k228_62 rfl (by omega) (by omega) (fun h => absurd h (by decide)) (fun _ => ?_)
        refine ev_s1 (L' := [some (vr 0), some (vi x), some (vi t), some (vi (i : Int))]) (S' := [vi 0, vi t]) k228_65 rfl rfl ?_
        refine ev_goto (t := 70) k228_66 rfl ?_
        refine ev_s1 (L' := [some (vr 0), some (vi x), some (vi t), some (vi (i : Int))]) (S' := [vi (t + 0)]) k228_70 rfl rfl ?_
        refine ev_s1 (L' := [some (vr 0), some (vi x), some (vi (t + 0)), some (vi (i : Int))]) (S' := []) k228_71 rfl rfl ?_
        refine ev_s1 (L' := [some (vr 0), some (vi x), some (vi (t + 0)), some (vi ((i : Int) + 1))]) (S' := []) k228_72 rfl rfl ?_
        refine ev_goto (t := 50) k228_75 rfl ?_
        exact ih (i + 1) _ (by omega) (by omega) (by rw [cnt_f (p := (fun r => decide (J 1 r ≠ -1000000))) (decide_eq_false (by omega)), ← ht]; omega)
      · show Ev d 228 62 [some (vr 0), some (vi x), some (vi t), some (vi (i : Int))] [vi 0, vi t] (SM J) Q
        refine ev_z_eq (t := 69) k228_62 rfl (by omega) (by omega) (fun _ => ?_) (fun h => absurd h (by decide))
        refine ev_s1 (L' := [some (vr 0), some (vi x), some (vi t), some (vi (i : Int))]) (S' := [vi 1, vi t]) k228_69 rfl rfl ?_
        refine ev_s1 (L' := [some (vr 0), some (vi x), some (vi t), some (vi (i : Int))]) (S' := [vi (t + 1)]) k228_70 rfl rfl ?_
        refine ev_s1 (L' := [some (vr 0), some (vi x), some (vi (t + 1)), some (vi (i : Int))]) (S' := []) k228_71 rfl rfl ?_
        refine ev_s1 (L' := [some (vr 0), some (vi x), some (vi (t + 1)), some (vi ((i : Int) + 1))]) (S' := []) k228_72 rfl rfl ?_
        refine ev_goto (t := 50) k228_75 rfl ?_
        exact ih (i + 1) _ (by omega) (by omega) (by rw [cnt_t (p := (fun r => decide (J 1 r ≠ -1000000))) (decide_eq_true (by omega)), ← ht])

set_option maxHeartbeats 1000000 in
theorem m_count {d : Nat} {J : Nat → Int → Int} {Q : Option jV → jS → Prop} (hJ : RZ J) (hw : OKW (J 6)) {x : Int} (xa : -2147483648 ≤ x) (xb : x < 2147483648) (hd : 3 ≤ d) (hB : ¬ (0 ≤ x ∧ x ≤ 7) → Q (some (vi (-1000001))) (SM J)) (hn0 : x = 0 → Q (some (vi (cntF (fun r => decide (J 1 r ≠ -1000000)) 8))) (SM J)) (hn1 : x = 1 → Q (some (vi (J 6 1))) (SM J)) (hn2 : x = 2 → Q (some (vi (J 6 2))) (SM J)) (hn3 : x = 3 → Q (some (vi (seaW (J 6)))) (SM J)) (hn4 : x = 4 → Q (some (vi (takW (J 6)))) (SM J)) (hn5 : x = 5 → Q (some (vi (J 6 0))) (SM J)) (hn6 : x = 6 → Q (some (vi (J 0 17))) (SM J)) (hn7 : x = 7 → Q (some (vi (J 0 6))) (SM J)) : Cl d 228 [vr 0, vi x] (SM J) Q := by
  have w0 := hw.1
  have w1 := hw.2.1
  have w2 := hw.2.2.1
  refine ⟨by rw [l228]; exact Nat.le_of_ble_eq_true rfl, ?_⟩
  rw [l228]
  show Ev d 228 0 [some (vr 0), some (vi x), none, none] [] (SM J) Q
  refine ev_s1 (L' := [some (vr 0), some (vi x), none, none]) (S' := [vi 0]) k228_0 rfl rfl ?_
  refine ev_s1 (L' := [some (vr 0), some (vi x), some (vi 0), none]) (S' := []) k228_1 rfl rfl ?_
  refine ev_s1 (L' := [some (vr 0), some (vi x), some (vi 0), none]) (S' := [vi x]) k228_2 rfl rfl ?_
  rcases (show x = 0 ∨ x = 1 ∨ x = 2 ∨ x = 3 ∨ x = 4 ∨ x = 5 ∨ x = 6 ∨ x = 7 ∨ (x < 0 ∨ 7 < x) by omega) with hs1 | hs1 | hs1 | hs1 | hs1 | hs1 | hs1 | hs1 | hs1
  · refine ev_tsw (t := 48) k228_3 hs1 rfl ?_
    refine ev_s1 (L' := [some (vr 0), some (vi x), some (vi 0), none]) (S' := [vi 0]) k228_48 rfl rfl ?_
    refine ev_s1 (L' := [some (vr 0), some (vi x), some (vi 0), some (vi 0)]) (S' := []) k228_49 rfl rfl ?_
    exact m_cnt0 hJ (by omega) (hn0 (by omega)) 9 0 0 (by omega) (by omega) rfl
  · refine ev_tsw (t := 80) k228_3 hs1 rfl ?_
    refine ev_s1 (L' := [some (vr 0), some (vi x), some (vi 0), none]) (S' := [vr 0]) k228_80 rfl rfl ?_
    refine ev_getR k228_81 (by decide) (rfl) (y_0_13) ?_
    refine ev_s1 (L' := [some (vr 0), some (vi x), some (vi 0), none]) (S' := [vi 1, vr 6]) k228_84 rfl rfl ?_
    refine ev_iald k228_85 (by decide) (rfl) (by omega) (by omega) ?_
    have rr2 := hJ.1 6 1
    refine ev_ireturn k228_86 ?_
    exact hn1 (by omega)
  · refine ev_tsw (t := 87) k228_3 hs1 rfl ?_
    refine ev_s1 (L' := [some (vr 0), some (vi x), some (vi 0), none]) (S' := [vr 0]) k228_87 rfl rfl ?_
    refine ev_getR k228_88 (by decide) (rfl) (y_0_13) ?_
    refine ev_s1 (L' := [some (vr 0), some (vi x), some (vi 0), none]) (S' := [vi 2, vr 6]) k228_91 rfl rfl ?_
    refine ev_iald k228_92 (by decide) (rfl) (by omega) (by omega) ?_
    have rr3 := hJ.1 6 2
    refine ev_ireturn k228_93 ?_
    exact hn2 (by omega)
  · refine ev_tsw (t := 94) k228_3 hs1 rfl ?_
    refine ev_s1 (L' := [some (vr 0), some (vi x), some (vi 0), none]) (S' := [vr 0]) k228_94 rfl rfl ?_
    refine ev_virt (a := []) (S' := []) k228_95 rfl (Nat.le_of_ble_eq_true rfl) (by decide) (rfl) (by omega) ?_
    refine m_sitting hJ hw (?_)
    show Ev d 228 98 [some (vr 0), some (vi x), some (vi 0), none] [vi (seaW (J 6))] (SM J) Q
    refine ev_ireturn k228_98 ?_
    exact hn3 (by omega)
  · refine ev_tsw (t := 99) k228_3 hs1 rfl ?_
    refine ev_s1 (L' := [some (vr 0), some (vi x), some (vi 0), none]) (S' := [vr 0]) k228_99 rfl rfl ?_
    refine ev_virt (a := []) (S' := []) k228_100 rfl (Nat.le_of_ble_eq_true rfl) (by decide) (rfl) (by omega) ?_
    refine m_taken hJ hw (by omega) (?_)
    show Ev d 228 103 [some (vr 0), some (vi x), some (vi 0), none] [vi (takW (J 6))] (SM J) Q
    refine ev_ireturn k228_103 ?_
    exact hn4 (by omega)
  · refine ev_tsw (t := 104) k228_3 hs1 rfl ?_
    refine ev_s1 (L' := [some (vr 0), some (vi x), some (vi 0), none]) (S' := [vr 0]) k228_104 rfl rfl ?_
    refine ev_getR k228_105 (by decide) (rfl) (y_0_13) ?_
    refine ev_s1 (L' := [some (vr 0), some (vi x), some (vi 0), none]) (S' := [vi 0, vr 6]) k228_108 rfl rfl ?_
    refine ev_iald k228_109 (by decide) (rfl) (by omega) (by omega) ?_
    have rr4 := hJ.1 6 0
    refine ev_ireturn k228_110 ?_
    exact hn5 (by omega)
  · refine ev_tsw (t := 111) k228_3 hs1 rfl ?_
    refine ev_s1 (L' := [some (vr 0), some (vi x), some (vi 0), none]) (S' := [vr 0]) k228_111 rfl rfl ?_
    refine ev_getI k228_112 (by decide) (rfl) ?_
    show Ev d 228 115 [some (vr 0), some (vi x), some (vi 0), none] [vi (J 0 17)] (SM J) Q
    have rr5 := hJ.1 0 17
    refine ev_ireturn k228_115 ?_
    exact hn6 (by omega)
  · refine ev_tsw (t := 116) k228_3 hs1 rfl ?_
    refine ev_s1 (L' := [some (vr 0), some (vi x), some (vi 0), none]) (S' := [vr 0]) k228_116 rfl rfl ?_
    refine ev_getI k228_117 (by decide) (rfl) ?_
    show Ev d 228 120 [some (vr 0), some (vi x), some (vi 0), none] [vi (J 0 6)] (SM J) Q
    have rr6 := hJ.1 0 6
    refine ev_ireturn k228_120 ?_
    exact hn7 (by omega)
  · refine ev_tsd (t := 121) k228_3 (by omega) (by omega) hs1 rfl ?_
    refine ev_ldc k228_121 ?_
    refine ev_ireturn k228_123 ?_
    exact hB (by omega)

set_option maxHeartbeats 1000000 in
theorem m_status {d : Nat} {J : Nat → Int → Int} {Q : Option jV → jS → Prop} (hJ : RZ J) (hQ : Q (some (vi (J 0 4))) (SM J)) : Cl d 229 [vr 0] (SM J) Q := by
  refine ⟨by rw [l229]; exact Nat.le_of_ble_eq_true rfl, ?_⟩
  rw [l229]
  show Ev d 229 0 [some (vr 0)] [] (SM J) Q
  refine ev_s1 (L' := [some (vr 0)]) (S' := [vr 0]) k229_0 rfl rfl ?_
  refine ev_getI k229_1 (by decide) (rfl) ?_
  show Ev d 229 4 [some (vr 0)] [vi (J 0 4)] (SM J) Q
  have rr1 := hJ.1 0 4
  refine ev_ireturn k229_4 ?_
  exact hQ

set_option maxHeartbeats 1000000 in
theorem m_fault {d : Nat} {J : Nat → Int → Int} {Q : Option jV → jS → Prop} (hJ : RZ J) (hQ : Q (some (vi (J 0 7))) (SM J)) : Cl d 180 [vr 0] (SM J) Q := by
  refine ⟨by rw [l180]; exact Nat.le_of_ble_eq_true rfl, ?_⟩
  rw [l180]
  show Ev d 180 0 [some (vr 0)] [] (SM J) Q
  refine ev_s1 (L' := [some (vr 0)]) (S' := [vr 0]) k180_0 rfl rfl ?_
  refine ev_getI k180_1 (by decide) (rfl) ?_
  show Ev d 180 4 [some (vr 0)] [vi (J 0 7)] (SM J) Q
  have rr1 := hJ.1 0 7
  refine ev_ireturn k180_4 ?_
  exact hQ
