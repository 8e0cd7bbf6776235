section ZX1
theorem xs_col {c : mCf} {lm lp k p : Nat} (hlp : lp ≤ 4) (hp : p ≤ 4) : xs c (colP c lm lp) (colP c k p) = if k = lm ∧ p = lp then -solD c else 0 := by
  rw [xs_n (colP_ge c k p)]
  by_cases e : k = lm ∧ p = lp
  · rw [if_pos e, if_pos (by rw [e.1, e.2])]
  · rw [if_neg e, if_neg (by unfold colP; omega)]
theorem gM {c : mCf} (hok : okL c) {x : Nat → Int} (hn : ∀ k, k ≤ c.m → nodeT c x k) {k : Nat} (hk : k < c.m) (q : Nat) : ((2 * c.E k * rtP c k : Nat) : Int) * zS 10 (fun i => lfM c k q i * uv c x i) = WV c * (64 * (4 * x (4 * k + 2) + (q : Int) * (c.L k : Int) * x (4 * k + 3)) + (c.L k : Int) * (x (colP c k 1) * (54 * (q : Int) - 36) + x (colP c k 2) * (32 * (q : Int) - 32) + x (colP c k 3) * (10 * (q : Int) - 12))) := by
  obtain ⟨u0, u2, u1, u3⟩ := uv_beam hok hn hk
  unfold lfM
  rw [zS_en hok.1 hk, u0, u1, u2, u3]
  have c1 : ((2 * c.E k * rtP c k : Nat) : Int) = 2 * (c.E k : Int) * (rtP c k : Int) := by rw [Int.natCast_mul, Int.natCast_mul]; rfl
  have c2 : ((6 * q : Nat) : Int) = 6 * (q : Int) := by omega
  have c3 : ((3 * q : Nat) : Int) = 3 * (q : Int) := by omega
  rw [c1, c2, c3]
  unfold RMv RTn WV
  rw [LD3, LD2, rtL hok hk, eo_mul c (show k < 3 by have := hok.1; omega)]
  show 2 * (c.E k : Int) * (rtP c k : Int) * ((12 - 6 * (q : Int)) * (rtP c k : Int) * _ + (8 - 3 * (q : Int)) * _ + (4 - 3 * (q : Int)) * _) = _
  grind
theorem gS {c : mCf} (hok : okL c) {x : Nat → Int} (hn : ∀ k, k ≤ c.m → nodeT c x k) {k : Nat} (hk : k < c.m) : ((-6 : Int) * ((c.E k : Nat) : Int)) * ((rtP c k : Nat) : Int) * ((rtP c k : Nat) : Int) * zS 10 (fun i => lfS c k i * uv c x i) = WV c * ((scP c c.m : Int) * (64 * x (4 * k + 3) + 54 * x (colP c k 1) + 32 * x (colP c k 2) + 10 * x (colP c k 3))) := by
  have h := uF_0 hok hn hk
  rw [bF_0] at h
  unfold lfS
  rw [zS_en hok.1 hk]
  have c1 : ((2 * rtP c k : Nat) : Int) = 2 * (rtP c k : Int) := by rw [Int.natCast_mul]; rfl
  rw [c1]
  have e : (-6 : Int) * (c.E k : Int) * (rtP c k : Int) * (rtP c k : Int) * (2 * (rtP c k : Int) * (uv c x k - uv c x (k+1)) + ((1 : Nat) : Int) * uv c x (esP c (2 * k)) + ((1 : Nat) : Int) * uv c x (esP c (2 * k + 1))) = -((c.E k : Int) * (rtP c k : Int) * (rtP c k : Int) * (12 * (rtP c k : Int) * (uv c x k - uv c x (k+1)) + 6 * (uv c x (esP c (2 * k)) + uv c x (esP c (2 * k + 1))))) := by
    show (-6 : Int) * (c.E k : Int) * (rtP c k : Int) * (rtP c k : Int) * (2 * (rtP c k : Int) * (uv c x k - uv c x (k+1)) + 1 * uv c x (esP c (2 * k)) + 1 * uv c x (esP c (2 * k + 1))) = _
    grind
  rw [e, h]
  unfold WV
  grind
theorem gV {c : mCf} (hok : okL c) {x : Nat → Int} (hn : ∀ k, k ≤ c.m → nodeT c x k) {k : Nat} (hk : k < c.m) {q : Nat} (hq : q ≤ 4) : ((6 * c.E k * scP c c.m : Nat) : Int) * zS 10 (fun i => shP c k q (fun _ => 0) i * uv c x i) = WV c * (64 * (384 * (c.E k : Int) * x (4 * k) + 96 * (c.E k : Int) * (c.L k : Int) * (q : Int) * x (4 * k + 1) - 12 * ((c.L k : Int) * (q : Int)) * ((c.L k : Int) * (q : Int)) * x (4 * k + 2) - (c.L k : Int) * (q : Int) * ((c.L k : Int) * (q : Int)) * ((c.L k : Int) * (q : Int)) * x (4 * k + 3)) + (c.L k : Int) * (c.L k : Int) * (c.L k : Int) * (x (colP c k 1) * (108 * ((q : Int) * (q : Int)) - 54 * ((q : Int) * (q : Int) * (q : Int))) + x (colP c k 2) * (96 * ((q : Int) * (q : Int)) - 32 * ((q : Int) * (q : Int) * (q : Int))) + x (colP c k 3) * (36 * ((q : Int) * (q : Int)) - 10 * ((q : Int) * (q : Int) * (q : Int))))) := by
  obtain ⟨u0, u2, u1, u3⟩ := uv_beam hok hn hk
  rw [zS_sh hok.1 hk, u0, u1, u2, u3]
  have h4 : ((4 - q : Nat) : Int) = 4 - (q : Int) := by omega
  have h5 : ((4 + 2 * q : Nat) : Int) = 4 + 2 * (q : Int) := by omega
  have h12 : ((12 - 2 * q : Nat) : Int) = 12 - 2 * (q : Int) := by omega
  have c1 : ((6 * c.E k * scP c c.m : Nat) : Int) = 6 * (c.E k : Int) * (scP c c.m : Int) := by rw [Int.natCast_mul, Int.natCast_mul]; rfl
  rw [c1, Int.natCast_mul, Int.natCast_mul, Int.natCast_mul, Int.natCast_mul, Int.natCast_mul, Int.natCast_mul, Int.natCast_mul, Int.natCast_mul, Int.natCast_mul, Int.natCast_mul, Int.natCast_mul, Int.natCast_mul, h4, h5, h12]
  unfold RMv RTn WV
  rw [LD3, LD2, rtL hok hk, eo_mul c (show k < 3 by have := hok.1; omega)]
  generalize (q : Int) = Q
  grind
theorem orP_one {k : Nat} (hk : k < 4) (rg : Nat → Int) : orP (fun i => decide (i = k)) rg 4 = rg k := by
  show 0 + (if decide (0 = k) = true then rg 0 else 0) + (if decide (1 = k) = true then rg 1 else 0) + (if decide (2 = k) = true then rg 2 else 0) + (if decide (3 = k) = true then rg 3 else 0) = rg k
  rcases (by omega : k = 0 ∨ k = 1 ∨ k = 2 ∨ k = 3) with rfl | rfl | rfl | rfl <;> simp
theorem gR {c : mCf} (hok : okL c) {x : Nat → Int} (hn : ∀ k, k ≤ c.m → nodeT c x k) {k : Nat} (hk : k ≤ c.m) : zS 10 (fun i => zK c k i * uv c x i) = -(WV c * shS c x k) - WV c * (64 * (scP c c.m : Int) * ((if k < c.m then vL c x k else 0) - (if 0 < k then vR c x (k - 1) else 0))) := by
  have hm := hok.1
  rw [uv_res hok hn (by omega : k < 10), zS_zero (n := 2 * c.m) (fun e he => if_neg (by have := esP_lt (c := c) (e := e) (by omega); omega)), Int.mul_zero, Int.add_zero]
  have e1 : (if k < c.m then -vL c x k else 0) = -(if k < c.m then vL c x k else 0) := by split <;> omega
  have e2 : (if 0 < k ∧ k ≤ c.m then vR c x (k - 1) else 0) = (if 0 < k then vR c x (k - 1) else 0) := by
    by_cases e : 0 < k
    · rw [if_pos e, if_pos ⟨e, hk⟩]
    · rw [if_neg e, if_neg (fun z => e z.1)]
  rw [e1, e2]
  unfold WV
  generalize (if k < c.m then vL c x k else 0) = a
  generalize (if 0 < k then vR c x (k - 1) else 0) = b
  grind
/-- gain and own part give the value -/
def kap (c : mCf) (w : Nat) : Int := if w = 1 ∨ w = 3 then (scP c c.m : Int) else 1
theorem val_key {c : mCf} (hok : okL c) (h1 : 1 ≤ c.m) (hl : looseB c = false) {w k q lm lp : Nat} (hr : okRow c (w, k, q)) (hlm : lm < c.m) (hlp : lp ≤ 4) : gnP c w k * zS 10 (fun i => lfP c w k q i * uv c (xs c (colP c lm lp)) i) + WV c * solD c * owP c w k q lm lp (fun i => decide (i = k)) = WV c * (64 * kap c w * valP c w k q lm lp (colP c lm lp)) := by
  have hm := hok.1
  have hn := xs_node hok h1 hl (colP_ge c lm lp) (by unfold colP; omega)
  have hr' : (w ≤ 2 ∧ k < c.m ∧ q ≤ 4) ∨ (w = 3 ∧ k ≤ c.m ∧ q = 0) := hr
  have y : ∀ p, p ≤ 4 → xs c (colP c lm lp) (colP c k p) = if k = lm ∧ p = lp then -solD c else 0 := fun p hp => xs_col hlp hp
  rcases hr' with ⟨hw, hk, hq⟩ | ⟨rfl, hk, rfl⟩
  · have a0 : xs c (colP c lm lp) (4 * k) = solA c (4 * k) (colP c lm lp) := xs_lo (by omega)
    have a1 : xs c (colP c lm lp) (4 * k + 1) = solA c (4 * k + 1) (colP c lm lp) := xs_lo (by omega)
    have a2 : xs c (colP c lm lp) (4 * k + 2) = solA c (4 * k + 2) (colP c lm lp) := xs_lo (by omega)
    have a3 : xs c (colP c lm lp) (4 * k + 3) = solA c (4 * k + 3) (colP c lm lp) := xs_lo (by omega)
    rcases (by omega : w = 0 ∨ w = 1 ∨ w = 2) with rfl | rfl | rfl
    · have e1 : lfP c 0 k q = lfM c k q := rfl
      have e2 : gnP c 0 k = ((2 * c.E k * rtP c k : Nat) : Int) := rfl
      have e3 : owP c 0 k q lm lp (fun i => decide (i = k)) = if lm ≠ k then 0 else owM c k q lp := rfl
      have e4 : valP c 0 k q lm lp (colP c lm lp) = val0 c k q lm lp (colP c lm lp) := rfl
      have e5 : kap c 0 = 1 := rfl
      rw [e1, e2, e3, e4, e5, gM hok hn hk, y 1 (by omega), y 2 (by omega), y 3 (by omega), a2, a3]
      unfold val0 behN owM
      have cq : ((c.L k * q : Nat) : Int) = (c.L k : Int) * (q : Int) := Int.natCast_mul _ _
      rw [cq]
      generalize solA c (4 * k + 2) (colP c lm lp) = M
      generalize solA c (4 * k + 3) (colP c lm lp) = V
      generalize solD c = D
      generalize WV c = W
      by_cases g : k = lm
      · subst g
        rw [if_neg (show ¬ k ≠ k from fun z => z rfl)]
        rcases (by omega : lp = 0 ∨ lp = 1 ∨ lp = 2 ∨ lp = 3 ∨ lp = 4) with rfl | rfl | rfl | rfl | rfl <;> rcases (by omega : q = 0 ∨ q = 1 ∨ q = 2 ∨ q = 3 ∨ q = 4) with rfl | rfl | rfl | rfl | rfl <;> simp <;> grind
      · have g' : lm ≠ k := fun z => g z.symm
        simp [g, g']
        grind
    · have e1 : lfP c 1 k q = lfS c k := rfl
      have e2 : gnP c 1 k = ((-6 : Int) * ((c.E k : Nat) : Int)) * ((rtP c k : Nat) : Int) * ((rtP c k : Nat) : Int) := rfl
      have e3 : owP c 1 k q lm lp (fun i => decide (i = k)) = if lm ≠ k then 0 else owS c q lp := rfl
      have e4 : valP c 1 k q lm lp (colP c lm lp) = val1 c k q lm lp (colP c lm lp) := rfl
      have e5 : kap c 1 = (scP c c.m : Int) := rfl
      have hL := (hok.2 k (by omega)).1.1
      rw [e1, e2, e3, e4, e5, gS hok hn hk, y 1 (by omega), y 2 (by omega), y 3 (by omega), a3]
      unfold val1 behN owS
      generalize solA c (4 * k + 3) (colP c lm lp) = V
      generalize solD c = D
      generalize WV c = W
      generalize hs : (scP c c.m : Int) = s
      have hs' : ((scP c c.m : Nat) : Int) = s := hs
      by_cases g : k = lm
      · subst g
        rw [if_neg (show ¬ k ≠ k from fun z => z rfl)]
        have p1 : 0 < c.L k * 1 := by omega
        have p2 : 0 < c.L k * 2 := by omega
        have p3 : 0 < c.L k * 3 := by omega
        rcases (by omega : lp = 0 ∨ lp = 1 ∨ lp = 2 ∨ lp = 3 ∨ lp = 4) with rfl | rfl | rfl | rfl | rfl <;> rcases (by omega : q = 0 ∨ q = 1 ∨ q = 2 ∨ q = 3 ∨ q = 4) with rfl | rfl | rfl | rfl | rfl <;> simp [show 0 < c.L k by omega] <;> grind
      · have g' : lm ≠ k := fun z => g z.symm
        simp [g, g']
        grind
    · have e1 : lfP c 2 k q = shP c k q (fun _ => 0) := rfl
      have e2 : gnP c 2 k = ((6 * c.E k * scP c c.m : Nat) : Int) := rfl
      have e3 : owP c 2 k q lm lp (fun i => decide (i = k)) = if lm ≠ k then 0 else owV c k q lp := rfl
      have e4 : valP c 2 k q lm lp (colP c lm lp) = val2 c k q lm lp (colP c lm lp) := rfl
      have e5 : kap c 2 = 1 := rfl
      rw [e1, e2, e3, e4, e5, gV hok hn hk hq, y 1 (by omega), y 2 (by omega), y 3 (by omega), a0, a1, a2, a3]
      unfold val2 behN owV
      generalize solA c (4 * k) (colP c lm lp) = w0
      generalize solA c (4 * k + 1) (colP c lm lp) = t0
      generalize solA c (4 * k + 2) (colP c lm lp) = M
      generalize solA c (4 * k + 3) (colP c lm lp) = V
      generalize solD c = D
      generalize WV c = W
      by_cases g : k = lm
      · subst g
        rw [if_neg (show ¬ k ≠ k from fun z => z rfl)]
        rcases (by omega : lp = 0 ∨ lp = 1 ∨ lp = 2 ∨ lp = 3 ∨ lp = 4) with rfl | rfl | rfl | rfl | rfl <;> rcases (by omega : q = 0 ∨ q = 1 ∨ q = 2 ∨ q = 3 ∨ q = 4) with rfl | rfl | rfl | rfl | rfl <;> simp <;> grind
      · have g' : lm ≠ k := fun z => g z.symm
        simp [g, g']
        grind
  · have e1 : zS 10 (fun i => lfP c 3 k 0 i * uv c (xs c (colP c lm lp)) i) = zS 10 (fun i => zK c k i * uv c (xs c (colP c lm lp)) i) := zS_congr (fun i _ => by show (0 + puP c (k * 10 + i)) * _ = puP c (k * 10 + i) * _; rw [Int.zero_add])
    have e2 : gnP c 3 k = -1 := rfl
    have e3 : owP c 3 k 0 lm lp (fun i => decide (i = k)) = shP c lm lp (fun _ => 0) k := orP_one (by omega) _
    have e4 : valP c 3 k 0 lm lp (colP c lm lp) = val3 c k lm lp (colP c lm lp) := rfl
    have e5 : kap c 3 = (scP c c.m : Int) := rfl
    rw [e1, e2, e3, e4, e5, gR hok hn hk, shS_one hlm hlp]
    have e6 : (if k < c.m then vL c (xs c (colP c lm lp)) k else 0) - (if 0 < k then vR c (xs c (colP c lm lp)) (k - 1) else 0) = val3 c k lm lp (colP c lm lp) := by
      unfold val3 vL vR loadB
      rw [y 0 (by omega)]
      have z : ∀ p, p ≤ 4 → xs c (colP c lm lp) (colP c (k - 1) p) = if k - 1 = lm ∧ p = lp then -solD c else 0 := fun p hp => xs_col hlp hp
      rw [z 1 (by omega), z 2 (by omega), z 3 (by omega), z 4 (by omega)]
      have b1 : k < c.m → xs c (colP c lm lp) (4 * k + 3) = solA c (4 * k + 3) (colP c lm lp) := fun h => xs_lo (by omega)
      have b2 : 0 < k → xs c (colP c lm lp) (4 * (k - 1) + 3) = solA c (4 * k - 1) (colP c lm lp) := fun h => by rw [show 4 * (k - 1) + 3 = 4 * k - 1 by omega]; exact xs_lo (by omega)
      have f1 : (if k < c.m then xs c (colP c lm lp) (4 * k + 3) - (if k = lm ∧ 0 = lp then -solD c else 0) else 0) = (if k < c.m then solA c (4 * k + 3) (colP c lm lp) else 0) + (if k = lm ∧ 0 = lp then solD c else 0) := by
        by_cases h : k < c.m
        · rw [if_pos h, if_pos h, b1 h]; split <;> omega
        · rw [if_neg h, if_neg h, if_neg (by omega)]; rfl
      rw [f1]
      have f2 : (if 0 < k then xs c (colP c lm lp) (4 * (k - 1) + 3) + (if k - 1 = lm ∧ 1 = lp then -solD c else 0) + (if k - 1 = lm ∧ 2 = lp then -solD c else 0) + (if k - 1 = lm ∧ 3 = lp then -solD c else 0) + (if k - 1 = lm ∧ 4 = lp then -solD c else 0) else 0) = (if 0 < k then solA c (4 * k - 1) (colP c lm lp) else 0) - (if lm + 1 = k ∧ 1 ≤ lp then solD c else 0) := by
        by_cases h : 0 < k
        · rw [if_pos h, if_pos h, b2 h]
          by_cases g : lm + 1 = k
          · have g' : k - 1 = lm := by omega
            rcases (by omega : lp = 0 ∨ lp = 1 ∨ lp = 2 ∨ lp = 3 ∨ lp = 4) with rfl | rfl | rfl | rfl | rfl <;> simp [g, g'] <;> omega
          · have g' : ¬ k - 1 = lm := by omega
            simp [g, g']
        · rw [if_neg h, if_neg h, if_neg (by omega)]; rfl
      rw [f2]
      have f3 : (if k < c.m then solA c (4 * k + 3) (colP c lm lp) * 1 else 0) = (if k < c.m then solA c (4 * k + 3) (colP c lm lp) else 0) := by split <;> omega
      have f4 : (if 0 < k then solA c (4 * k - 1) (colP c lm lp) * -1 else 0) = -(if 0 < k then solA c (4 * k - 1) (colP c lm lp) else 0) := by split <;> omega
      rw [f3, f4]
      have f5 : solD c * (if decide ((0 < lp ∧ lp < 4 ∧ lm + 1 = k) ∨ (lp = 0 ∧ lm = k) ∨ (lp = 4 ∧ lm + 1 = k)) = true then 1 else 0) = (if k = lm ∧ 0 = lp then solD c else 0) + (if lm + 1 = k ∧ 1 ≤ lp then solD c else 0) := by
        by_cases g : k = lm ∧ 0 = lp
        · rw [if_pos g, if_neg (show ¬ (lm + 1 = k ∧ 1 ≤ lp) by omega), if_pos (decide_eq_true (by omega))]; omega
        · rw [if_neg g]
          by_cases g2 : lm + 1 = k ∧ 1 ≤ lp
          · rw [if_pos g2, if_pos (decide_eq_true (by omega))]; omega
          · rw [if_neg g2, if_neg (fun z => by have := of_decide_eq_true z; omega)]; omega
      rw [f5]
      omega
    rw [e6]
    generalize val3 c k lm lp (colP c lm lp) = v
    grind
/-- the class's value of a row, and the reference's -/
theorem val_eq {c : mCf} (hok : okL c) (h1 : 1 ≤ c.m) (hl : looseB c = false) {w k q lm lp : Nat} (hr : okRow c (w, k, q)) (hlm : lm < c.m) (hlp : lp ≤ 4) : solD c * atU c (w, k, q) lm lp = 64 * kap c w * (swP c 10).2.1 * vOf c (w, k, q) lm lp := by
  have hk := val_key hok h1 hl hr hlm hlp
  have hp := pr_u hok h1 hl hlm hlp (lfP c w k q)
  have hW := WV_pos hok
  have e1 : vOf c (w, k, q) lm lp = valP c w k q lm lp (colP c lm lp) := rfl
  have e2 : atU c (w, k, q) lm lp = prI (frP c) (swP c 10).1 (lfP c w k q) (shP c lm lp (fun _ => 0)) 10 * gnP c w k + (swP c 10).2.1 * owP c w k q lm lp (fun i => decide (i = k)) := rfl
  rw [e1, e2]
  refine Int.eq_of_mul_eq_mul_left (show WV c ≠ 0 by omega) ?_
  generalize valP c w k q lm lp (colP c lm lp) = v at *
  generalize owP c w k q lm lp (fun i => decide (i = k)) = ow at *
  generalize prI (frP c) (swP c 10).1 (lfP c w k q) (shP c lm lp (fun _ => 0)) 10 = P at *
  generalize zS 10 (fun i => lfP c w k q i * uv c (xs c (colP c lm lp)) i) = Z at *
  generalize (swP c 10).2.1 = d at *
  generalize gnP c w k = g at *
  generalize WV c = W at *
  generalize solD c = D at *
  generalize kap c w = K at *
  have : W * (64 * K * d * v) = d * (g * Z + W * D * ow) := by rw [hk]; grind
  rw [this]
  have : W * (D * (P * g + d * ow)) = g * (W * D * P) + W * D * d * ow := by grind
  rw [this, hp]
  grind
end ZX1
