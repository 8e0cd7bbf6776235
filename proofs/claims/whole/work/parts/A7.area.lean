section ZZ1
theorem ab_mul {s k : Int} {B K : Nat} (hs : s.natAbs ≤ B) (hk : k.natAbs ≤ K) : (s * k).natAbs ≤ B * K := by rw [Int.natAbs_mul]; exact Nat.mul_le_mul hs hk
theorem gj_bd {A : Nat → Nat → Int} {n w : Nat} (hw : n ≤ w) (hn : n ≤ 12) (reg : zReg A n) (hA : ∀ i j, i < n → j ≤ w → (A i j).natAbs ≤ 80000000) : (gjS A n w n).2.natAbs ≤ B9 ^ 12 ∧ ∀ i j, i < n → n ≤ j → j ≤ w → ((gjS A n w n).1 i j).natAbs ≤ B9 ^ 12 := by
  obtain ⟨p, h⟩ := zJ_all hw reg n (Nat.le_refl _)
  have hbig : 1000000000 ^ n ≤ B9 ^ 12 := Nat.pow_le_pow_right (by decide) hn
  refine ⟨?_, fun i j hi hj hjw => ?_⟩
  · rw [← h.pv]
    refine Nat.le_trans (zD_u n _ 1000000000 (fun a b ha hb => ?_)) hbig
    have := Nat.mul_le_mul (hA (p a) (zi b) (h.lt a ha) (by show b ≤ w; omega)) hn
    omega
  · rw [h.ab i j hi hj hjw]
    refine Nat.le_trans (zD_u n _ 1000000000 (fun a b ha hb => ?_)) hbig
    have := Nat.mul_le_mul (hA (p a) (if b = i then j else zi b) (h.lt a ha) (by
      split
      · exact hjw
      · show b ≤ w; omega)) hn
    omega
theorem valOk_all {c : mCf} (h : okCf c) (hl : looseB c = false) : valOk c := by
  have hm := h.2.1
  have h1 := h.1
  obtain ⟨bD, bA⟩ := gj_bd (A := stA c) (n := 4 * c.m) (w := 9 * c.m) (by omega) (by omega) (st_reg h.l h1 hl) (fun i j _ _ => by
    have hb := stT_bd h (c.m + 1) (Nat.le_refl _) (28 * i + j)
    have e : ((c.m + 1 : Nat) : Int) * 20000000 ≤ 80000000 := by omega
    show ((stT c (c.m + 1)).1 (28 * i + j)).natAbs ≤ 80000000
    omega)
  have bD : (solD c).natAbs ≤ B9 ^ 12 := bD
  have hBB : B9 ^ 12 * 1000000 < B9 ^ 24 := by decide
  generalize B9 ^ 12 = B at *
  intro q lm lp hr hlm hlp
  obtain ⟨w, k, q⟩ := q
  have hr' : (w ≤ 2 ∧ k < c.m ∧ q ≤ 4) ∨ (w = 3 ∧ k ≤ c.m ∧ q = 0) := hr
  have bA : ∀ i, i < 4 * c.m → (solA c i (4 * c.m + 5 * lm + lp)).natAbs ≤ B := fun i hi => bA i _ hi (by omega) (by omega)
  refine Nat.lt_of_le_of_lt (Nat.le_trans ?_ (Nat.le_refl (B * 1000000))) hBB
  show (valP c w k q lm lp (4 * c.m + 5 * lm + lp)).natAbs ≤ B * 1000000
  generalize 4 * c.m + 5 * lm + lp = col at *
  rcases hr' with ⟨hw, hk, hq⟩ | ⟨rfl, hk, rfl⟩
  · have hL := (h.2.2.1 k (by omega)).2
    have hE := (h.2.2.2.1 k (by omega)).2
    have hb : behN c k q lm lp ≤ 48 := by
      unfold behN
      split
      · have := Nat.mul_le_mul hL (show q - lp ≤ 4 by omega); omega
      · omega
    have hLq : c.L k * q ≤ 48 := by have := Nat.mul_le_mul hL hq; omega
    have a0 := bA (4 * k) (by omega)
    have a1 := bA (4 * k + 1) (by omega)
    have a2 := bA (4 * k + 2) (by omega)
    have a3 := bA (4 * k + 3) (by omega)
    rcases (by omega : w = 0 ∨ w = 1 ∨ w = 2) with rfl | rfl | rfl
    · show (val0 c k q lm lp col).natAbs ≤ _
      unfold val0
      have t1 := ab_mul a2 (k := 4) (K := 4) (by decide)
      have t2 := ab_mul a3 (k := ((c.L k * q : Nat) : Int)) (K := 48) (by omega)
      have t3 := ab_mul bD (k := -(behN c k q lm lp : Int)) (K := 48) (by omega)
      omega
    · show (val1 c k q lm lp col).natAbs ≤ _
      unfold val1
      have t1 := ab_mul a3 (k := 1) (K := 1) (by decide)
      have t2 := ab_mul bD (k := if 0 < behN c k q lm lp then -1 else 0) (K := 1) (by split <;> decide)
      omega
    · show (val2 c k q lm lp col).natAbs ≤ _
      unfold val2
      have m1 : 384 * c.E k ≤ 4608 := by omega
      have m2 : 96 * c.E k * (c.L k * q) ≤ 55296 := Nat.mul_le_mul (show 96 * c.E k ≤ 1152 by omega) hLq
      have m3 : 12 * (c.L k * q) * (c.L k * q) ≤ 27648 := Nat.mul_le_mul (show 12 * (c.L k * q) ≤ 576 by omega) hLq
      have m4 : c.L k * q * (c.L k * q) * (c.L k * q) ≤ 110592 := Nat.mul_le_mul (Nat.mul_le_mul hLq hLq) hLq
      have m5 : behN c k q lm lp * behN c k q lm lp * behN c k q lm lp ≤ 110592 := Nat.mul_le_mul (Nat.mul_le_mul hb hb) hb
      have t1 := ab_mul a0 (k := ((384 * c.E k : Nat) : Int)) (K := 4608) (by rw [Int.natAbs_natCast]; exact m1)
      have t2 := ab_mul a1 (k := ((96 * c.E k * (c.L k * q) : Nat) : Int)) (K := 55296) (by rw [Int.natAbs_natCast]; exact m2)
      have t3 := ab_mul a2 (k := -((12 * (c.L k * q) * (c.L k * q) : Nat) : Int)) (K := 27648) (by rw [Int.natAbs_neg, Int.natAbs_natCast]; exact m3)
      have t4 := ab_mul a3 (k := -((c.L k * q * (c.L k * q) * (c.L k * q) : Nat) : Int)) (K := 110592) (by rw [Int.natAbs_neg, Int.natAbs_natCast]; exact m4)
      have t5 := ab_mul bD (k := ((behN c k q lm lp * behN c k q lm lp * behN c k q lm lp : Nat) : Int)) (K := 110592) (by rw [Int.natAbs_natCast]; exact m5)
      generalize solA c (4 * k) col * _ = s1 at *
      generalize solA c (4 * k + 1) col * _ = s2 at *
      generalize solA c (4 * k + 2) col * _ = s3 at *
      generalize solA c (4 * k + 3) col * _ = s4 at *
      generalize solD c * _ = s5 at *
      clear m1 m2 m3 m4 m5
      omega
  · show (val3 c k lm lp col).natAbs ≤ _
    unfold val3
    have t1 : (if k < c.m then solA c (4 * k + 3) col * 1 else 0).natAbs ≤ B := by
      split
      · have := bA (4 * k + 3) (by omega); omega
      · exact Nat.zero_le _
    have t2 : (if 0 < k then solA c (4 * k - 1) col * -1 else 0).natAbs ≤ B := by
      split
      · have := bA (4 * k - 1) (by omega); omega
      · exact Nat.zero_le _
    have t3 := ab_mul bD (k := if loadB k lm lp = true then 1 else 0) (K := 1) (by split <;> decide)
    omega
/-- reduced fractions -/
theorem redPQ (u : Int) {w : Int} (hw : w ≠ 0) : redP u w * w = u * redQ u w := by
  have hg : 0 < Nat.gcd u.natAbs w.natAbs := Nat.gcd_pos_of_pos_right _ (by omega)
  obtain ⟨a, b, _, ha, hb⟩ := Nat.exists_coprime u.natAbs w.natAbs
  have e1 : u.natAbs / Nat.gcd u.natAbs w.natAbs = a := Nat.div_eq_of_eq_mul_left hg ha
  have e2 : w.natAbs / Nat.gcd u.natAbs w.natAbs = b := Nat.div_eq_of_eq_mul_left hg hb
  unfold redP redQ
  rw [e1, e2]
  have hu := Int.sign_mul_natAbs u
  have hw' := Int.sign_mul_natAbs w
  have hs : w.sign * w.sign = 1 := by
    rcases Int.lt_or_gt_of_ne hw with f | f
    · rw [Int.sign_eq_neg_one_of_neg f]; rfl
    · rw [Int.sign_eq_one_of_pos f]; rfl
  have ha' : (u.natAbs : Int) = (a : Int) * (Nat.gcd u.natAbs w.natAbs : Nat) := by rw [← Int.natCast_mul, ← ha]
  have hb' : (w.natAbs : Int) = (b : Int) * (Nat.gcd u.natAbs w.natAbs : Nat) := by rw [← Int.natCast_mul, ← hb]
  generalize (Nat.gcd u.natAbs w.natAbs : Nat) = g at *
  calc u.sign * w.sign * (a : Int) * w = u.sign * w.sign * (a : Int) * (w.sign * w.natAbs) := by rw [hw']
    _ = u.sign * (w.sign * w.sign) * (a : Int) * w.natAbs := by grind
    _ = u.sign * ((a : Int) * g) * b := by rw [hs, hb']; grind
    _ = u * b := by rw [← ha', hu]
theorem redQ_pos (u : Int) {w : Int} (hw : w ≠ 0) : 0 < redQ u w := by
  have := redQ_ne (u := u) hw
  have : 0 ≤ redQ u w := by unfold redQ; exact Int.natCast_nonneg _
  omega
theorem pos_tr {x x' a b : Int} (ha : 0 < a) (hb : 0 < b) (h : x * b = x' * a) (hx : 0 < x) : 0 < x' := by
  refine Classical.byContradiction (fun hn => ?_)
  have h1 := Int.mul_pos hx hb
  have h2 : 0 ≤ -x' * a := Int.mul_nonneg (by omega) (by omega)
  rw [Int.neg_mul] at h2
  omega
theorem neg_tr {x x' a b : Int} (ha : 0 < a) (hb : 0 < b) (h : x * b = x' * a) (hx : x < 0) : x' < 0 := by
  have := pos_tr (x := -x) (x' := -x') ha hb (by rw [Int.neg_mul, Int.neg_mul, h]) (by omega)
  omega
/-- both accounts of an area -/
def arI (t : Int × Int × Int) (p : Int × Int) (a b : Int) : Prop := (t.1 * t.2.2 + t.2.1) * b * p.2 = p.1 * t.2.2 * a ∧ 0 < t.2.2 ∧ 0 < p.2
theorem arI.add {t : Int × Int × Int} {p : Int × Int} {a b x y x' y' s : Int} (h : arI t p a b) (hx : x * b = x' * a) (hy : y * b = y' * a) : arI (t.1 + x * s + y * s, t.2) (sumP p ((x' + y') * s, 1)) a b := by
  obtain ⟨t1, t2, t3⟩ := t
  obtain ⟨p1, p2⟩ := p
  obtain ⟨h1, h2, h3⟩ := h
  have h1 : (t1 * t3 + t2) * b * p2 = p1 * t3 * a := h1
  have h3 : 0 < p2 := h3
  have hW : p2 * 1 ≠ 0 := by omega
  have hr := redPQ (p1 * 1 + (x' + y') * s * p2) hW
  refine ⟨?_, h2, redQ_pos _ hW⟩
  show ((t1 + x * s + y * s) * t3 + t2) * b * redQ (p1 * 1 + (x' + y') * s * p2) (p2 * 1) = redP (p1 * 1 + (x' + y') * s * p2) (p2 * 1) * t3 * a
  generalize redQ (p1 * 1 + (x' + y') * s * p2) (p2 * 1) = Q at *
  generalize redP (p1 * 1 + (x' + y') * s * p2) (p2 * 1) = P at *
  refine Int.eq_of_mul_eq_mul_left (show p2 ≠ 0 by omega) ?_
  calc p2 * (((t1 + x * s + y * s) * t3 + t2) * b * Q) = ((t1 * t3 + t2) * b * p2 + (x * b + y * b) * s * t3 * p2) * Q := by grind
    _ = (p1 * t3 * a + (x' * a + y' * a) * s * t3 * p2) * Q := by rw [h1, hx, hy]
    _ = ((p1 * 1 + (x' + y') * s * p2) * Q) * t3 * a := by grind
    _ = P * (p2 * 1) * t3 * a := by rw [hr]
    _ = _ := by grind
theorem arI.cr {t : Int × Int × Int} {p : Int × Int} {a b x y x' y' s : Int} (h : arI t p a b) (ha : 0 < a) (hb : 0 < b) (hx : x * b = x' * a) (hy : y * b = y' * a) (h0 : 0 < x) (h9 : y < 0) : arI (crP s x y t) (sumP p (x' * x' * s, x' - y')) a b := by
  obtain ⟨t1, t2, t3⟩ := t
  obtain ⟨p1, p2⟩ := p
  obtain ⟨h1, h2, h3⟩ := h
  have h1 : (t1 * t3 + t2) * b * p2 = p1 * t3 * a := h1
  have h2 : 0 < t3 := h2
  have h3 : 0 < p2 := h3
  have x0 := pos_tr ha hb hx h0
  have y0 := neg_tr ha hb hy h9
  have hg : 0 < Nat.gcd x.natAbs y.natAbs := Nat.gcd_pos_of_pos_left _ (by omega)
  have dx : ((Nat.gcd x.natAbs y.natAbs : Nat) : Int) ∣ x := Int.ofNat_dvd_left.mpr (Nat.gcd_dvd_left _ _)
  have dy : ((Nat.gcd x.natAbs y.natAbs : Nat) : Int) ∣ y := Int.ofNat_dvd_left.mpr (Nat.gcd_dvd_right _ _)
  have eu := Int.mul_tdiv_cancel' dx
  have ed := Int.mul_tdiv_cancel' (Int.dvd_sub dx dy)
  have hW : p2 * (x' - y') ≠ 0 := Int.mul_ne_zero (by omega) (by omega)
  have hr := redPQ (p1 * (x' - y') + x' * x' * s * p2) hW
  show arI (t1, t2 * (x - y).tdiv ((Nat.gcd x.natAbs y.natAbs : Nat) : Int) + (x.tdiv ((Nat.gcd x.natAbs y.natAbs : Nat) : Int) * x.tdiv ((Nat.gcd x.natAbs y.natAbs : Nat) : Int) * ((Nat.gcd x.natAbs y.natAbs : Nat) : Int) * t3) * s, t3 * (x - y).tdiv ((Nat.gcd x.natAbs y.natAbs : Nat) : Int)) (redP (p1 * (x' - y') + x' * x' * s * p2) (p2 * (x' - y')), redQ (p1 * (x' - y') + x' * x' * s * p2) (p2 * (x' - y'))) a b
  have hG : (0 : Int) < ((Nat.gcd x.natAbs y.natAbs : Nat) : Int) := by omega
  have hQ := redQ_pos (p1 * (x' - y') + x' * x' * s * p2) hW
  generalize ((Nat.gcd x.natAbs y.natAbs : Nat) : Int) = g at *
  generalize x.tdiv g = u at *
  generalize (x - y).tdiv g = d at *
  generalize redQ (p1 * (x' - y') + x' * x' * s * p2) (p2 * (x' - y')) = Q at *
  generalize redP (p1 * (x' - y') + x' * x' * s * p2) (p2 * (x' - y')) = P at *
  have hd : 0 < d := by
    refine Classical.byContradiction (fun hn => ?_)
    have : 0 ≤ g * -d := Int.mul_nonneg (by omega) (by omega)
    rw [Int.mul_neg, ed] at this
    omega
  refine ⟨?_, Int.mul_pos h2 hd, hQ⟩
  show (t1 * (t3 * d) + (t2 * d + (u * u * g * t3) * s)) * b * Q = P * (t3 * d) * a
  have E3 : g * d * b = (x' - y') * a := by rw [ed, Int.sub_mul, hx, hy, Int.sub_mul]
  have E4 : g * u * b = x' * a := by rw [eu, hx]
  generalize hDl : x' - y' = Dl at *
  refine Int.eq_of_mul_eq_mul_left (show p2 * Dl * (g * b) ≠ 0 from Int.mul_ne_zero hW (Int.mul_ne_zero (by omega) (by omega))) ?_
  calc p2 * Dl * (g * b) * ((t1 * (t3 * d) + (t2 * d + (u * u * g * t3) * s)) * b * Q) = ((t1 * t3 + t2) * b * p2) * (d * Dl * Q * (g * b)) + (g * u * b) * (g * u * b) * (t3 * s * Q * p2 * Dl) := by grind
    _ = (p1 * t3 * a) * (d * Dl * Q * (g * b)) + (x' * a) * (x' * a) * (t3 * s * Q * p2 * Dl) := by rw [h1, E4]
    _ = p1 * Dl * Q * t3 * d * a * g * b + x' * x' * s * p2 * Q * t3 * a * (Dl * a) := by grind
    _ = p1 * Dl * Q * t3 * d * a * g * b + x' * x' * s * p2 * Q * t3 * a * (g * d * b) := by rw [E3]
    _ = (p1 * Dl + x' * x' * s * p2) * Q * (t3 * d * a * (g * b)) := by grind
    _ = P * (p2 * Dl) * (t3 * d * a * (g * b)) := by rw [hr]
    _ = _ := by grind
theorem arI.step {t : Int × Int × Int} {p : Int × Int} {a b x y x' y' s : Int} (h : arI t p a b) (ha : 0 < a) (hb : 0 < b) (hx : x * b = x' * a) (hy : y * b = y' * a) : arI (jnP s x y t) (pieceP p x' y' s) a b := by
  have px := fun h0 => pos_tr ha hb hx h0
  have nx := fun h0 => neg_tr ha hb hx h0
  have py := fun h0 => pos_tr ha hb hy h0
  have ny := fun h0 => neg_tr ha hb hy h0
  have zx : x = 0 → x' = 0 := fun e => by
    rw [e, Int.zero_mul] at hx
    rcases Int.mul_eq_zero.mp hx.symm with f | f
    · exact f
    · omega
  have zy : y = 0 → y' = 0 := fun e => by
    rw [e, Int.zero_mul] at hy
    rcases Int.mul_eq_zero.mp hy.symm with f | f
    · exact f
    · omega
  unfold jnP pieceP
  by_cases c1 : 0 ≤ x ∧ 0 ≤ y
  · rw [if_pos c1]
    by_cases c2 : x' ≤ 0 ∧ y' ≤ 0
    · rw [if_pos c2]
      have e1 : x = 0 := Classical.byContradiction (fun hn => by have := px (by omega); omega)
      have e2 : y = 0 := Classical.byContradiction (fun hn => by have := py (by omega); omega)
      rw [e1, e2, Int.zero_mul, Int.add_zero, Int.add_zero]; exact h
    · rw [if_neg c2]
      have e1 : 0 ≤ x' ∧ 0 ≤ y' := by
        constructor
        · rcases Int.lt_or_eq_of_le c1.1 with f | f
          · have := px f; omega
          · have := zx f.symm; omega
        · rcases Int.lt_or_eq_of_le c1.2 with f | f
          · have := py f; omega
          · have := zy f.symm; omega
      unfold pcU
      rw [if_pos e1]
      exact h.add hx hy
  · rw [if_neg c1]
    rcases Int.lt_trichotomy x 0 with fx | fx | fx
    · rcases Int.lt_trichotomy y 0 with fy | fy | fy
      · have := nx fx; have := ny fy
        rw [if_pos (by rw [Int.sign_eq_neg_one_of_neg fx, Int.sign_eq_neg_one_of_neg fy]; decide), if_pos (by omega)]; exact h
      · have := nx fx; have := zy fy
        rw [if_pos (by rw [fy, Int.sign_zero, Int.mul_zero]; decide), if_pos (by omega)]; exact h
      · have a1 := nx fx; have a2 := py fy
        rw [if_neg (by rw [Int.sign_eq_neg_one_of_neg fx, Int.sign_eq_one_of_pos fy]; decide), if_neg (by omega), if_neg (by omega)]
        unfold pcU
        rw [if_neg (by omega), if_neg (by omega)]
        exact h.cr ha hb hy hx fy fx
    · rcases Int.lt_trichotomy y 0 with fy | fy | fy
      · have := zx fx; have := ny fy
        rw [if_pos (by rw [fx, Int.sign_zero, Int.zero_mul]; decide), if_pos (by omega)]; exact h
      · omega
      · omega
    · rcases Int.lt_trichotomy y 0 with fy | fy | fy
      · have a1 := px fx; have a2 := ny fy
        rw [if_neg (by rw [Int.sign_eq_one_of_pos fx, Int.sign_eq_neg_one_of_neg fy]; decide), if_pos fx, if_neg (by omega)]
        unfold pcU
        rw [if_neg (by omega), if_pos a1]
        exact h.cr ha hb hx hy fx fy
      · omega
      · omega
theorem ar_inv {c : mCf} {r : Nat × Nat × Nat} {a b τ τ' : Int} (ha : 0 < a) (hb : 0 < b) (hv : ∀ n, n < 5 * c.m → atU c r (n / 5) (n % 5) * τ * b = τ' * vK c r n * a) : ∀ n, n + 1 ≤ 5 * c.m → (aS (fun k' q' => atU c r k' q' * τ) c.L 0 (n+1)).1 = atU c r (n / 5) (n % 5) * τ ∧ arI (aS (fun k' q' => atU c r k' q' * τ) c.L 0 (n+1)).2 (arP c r τ' n) a b
  | 0, _ => ⟨rfl, by
      show arI (0, 0, 1) (0, 1) a b
      exact ⟨by show (0 * 1 + 0) * b * 1 = 0 * 1 * a; omega, by decide, by decide⟩⟩
  | n + 1, hn => by
    obtain ⟨i1, i2⟩ := ar_inv ha hb hv n (by omega)
    refine ⟨rfl, ?_⟩
    have e1 : (aS (fun k' q' => atU c r k' q' * τ) c.L 0 (n+1+1)).2 = if (n+1) % 5 = 0 then (aS (fun k' q' => atU c r k' q' * τ) c.L 0 (n+1)).2 else jnP ((c.L ((n+1) / 5) : Nat) : Int) (aS (fun k' q' => atU c r k' q' * τ) c.L 0 (n+1)).1 (atU c r ((n+1) / 5) ((n+1) % 5) * τ) (aS (fun k' q' => atU c r k' q' * τ) c.L 0 (n+1)).2 := rfl
    have e2 : arP c r τ' (n+1) = if n % 5 < 4 then pieceP (arP c r τ' n) (τ' * vK c r n) (τ' * vK c r (n + 1)) (c.L (n / 5) : Int) else arP c r τ' n := rfl
    rw [e1, e2]
    by_cases g : n % 5 < 4
    · rw [if_neg (by omega), if_pos g, i1, show (n + 1) / 5 = n / 5 by omega]
      refine i2.step ha hb (hv n (by omega)) ?_
      have := hv (n+1) (by omega)
      rw [show (n + 1) / 5 = n / 5 by omega] at this
      exact this
    · rw [if_pos (by omega), if_neg g]; exact i2
theorem area_eq {c : mCf} (hok : okL c) (h1 : 1 ≤ c.m) (t : List Nat) {rs : List (Nat × Nat × Nat)} (hrs : rOk c rs) (n a q : Int) : cAr c rs n a q = spArea (c, t, rs) n a q := by
  unfold cAr spArea
  by_cases hA : isAn c rs n q = true ∧ (a = 1 ∨ a = -1)
  · have hB := (an_eq hok h1 t rs n q).mp hA.1
    rw [if_pos hA, if_pos ⟨hB.1, hA.2, hB.2⟩]
    obtain ⟨a1, a2, hl⟩ := rw_of hB.1
    have hr := hrs n.toNat (by omega)
    show tellv q (rcU (arU c (rowAt rs n.toNat) a) (arL c (rowAt rs n.toNat) a)) (rcL (arU c (rowAt rs n.toNat) a) (arL c (rowAt rs n.toNat) a)) = tellv q (redP (arP c (rowAt rs n.toNat) (a * (solD c).sign) (5 * c.m - 1)).1 (arW c (rowAt rs n.toNat) (a * (solD c).sign))) (redQ (arP c (rowAt rs n.toNat) (a * (solD c).sign) (5 * c.m - 1)).1 (arW c (rowAt rs n.toNat) (a * (solD c).sign)))
    generalize rowAt rs n.toNat = r at *
    have hL : 0 < atL c r := atL_pos hok (w := r.1) (k := r.2.1) (q := r.2.2) hr
    have hD := solD_ne hok h1 hl
    have ho : 0 < overP c r.1 r.2.1 := over_pos hok (w := r.1) (k := r.2.1) (q := r.2.2) hr
    have hb : 0 < ((solD c).natAbs : Int) * (overP c r.1 r.2.1 : Nat) := Int.mul_pos (by omega) (by omega)
    have hv : ∀ n, n < 5 * c.m → atU c r (n / 5) (n % 5) * a * (((solD c).natAbs : Int) * (overP c r.1 r.2.1 : Nat)) = a * (solD c).sign * vK c r n * atL c r := fun n hn => by
      have hx := at_cross hok h1 hl hr (lm := n / 5) (lp := n % 5) (by omega) (by omega)
      have hs : ((solD c).natAbs : Int) = (solD c).sign * solD c := by
        rcases Int.lt_or_gt_of_ne hD with f | f
        · rw [Int.sign_eq_neg_one_of_neg f]; omega
        · rw [Int.sign_eq_one_of_pos f]; omega
      rw [hs]
      have hx' : atU c r (n / 5) (n % 5) * (solD c * (overP c r.1 r.2.1 : Nat)) = vK c r n * atL c r := hx
      calc atU c r (n / 5) (n % 5) * a * ((solD c).sign * solD c * (overP c r.1 r.2.1 : Nat)) = a * (solD c).sign * (atU c r (n / 5) (n % 5) * (solD c * (overP c r.1 r.2.1 : Nat))) := by grind
        _ = _ := by rw [hx']; grind
    have hi := (ar_inv hL hb hv (5 * c.m - 1) (by omega)).2
    rw [show 5 * c.m - 1 + 1 = 5 * c.m by omega] at hi
    obtain ⟨i1, i2, i3⟩ := hi
    have i1 : arU c r a * (((solD c).natAbs : Int) * (overP c r.1 r.2.1 : Nat)) * (arP c r (a * (solD c).sign) (5 * c.m - 1)).2 = (arP c r (a * (solD c).sign) (5 * c.m - 1)).1 * (arT c r a).2.2.2 * atL c r := i1
    have i2 : 0 < (arT c r a).2.2.2 := i2
    have eL : arL c r a = atL c r * (arT c r a).2.2.2 * 8 := rfl
    have eW : arW c r (a * (solD c).sign) = (arP c r (a * (solD c).sign) (5 * c.m - 1)).2 * ((8 * overP c r.1 r.2.1 : Nat) : Int) * ((solD c).natAbs : Int) := by
      unfold arW
      rw [Int.natAbs_mul, Int.natAbs_mul, Int.natAbs_natCast, Int.natCast_mul, Int.natCast_mul]
      congr 2
      omega
    have hLp : 0 < arL c r a := by rw [eL]; exact Int.mul_pos (Int.mul_pos hL i2) (by decide)
    have hWn : arW c r (a * (solD c).sign) ≠ 0 := by
      rw [eW]; exact Int.mul_ne_zero (Int.mul_ne_zero (by omega) (by omega)) (by omega)
    have hc : arU c r a * arW c r (a * (solD c).sign) = (arP c r (a * (solD c).sign) (5 * c.m - 1)).1 * arL c r a := by
      rw [eL, eW]
      have e8 : ((8 * overP c r.1 r.2.1 : Nat) : Int) = 8 * (overP c r.1 r.2.1 : Nat) := by omega
      rw [e8]
      calc arU c r a * ((arP c r (a * (solD c).sign) (5 * c.m - 1)).2 * (8 * (overP c r.1 r.2.1 : Nat)) * ((solD c).natAbs : Int)) = 8 * (arU c r a * (((solD c).natAbs : Int) * (overP c r.1 r.2.1 : Nat)) * (arP c r (a * (solD c).sign) (5 * c.m - 1)).2) := by grind
        _ = _ := by rw [i1]; grind
    obtain ⟨e1, e2⟩ := red_eq hLp hWn hc
    rw [← e1, ← e2]
  · rw [if_neg hA, if_neg (fun z => hA ⟨(an_eq hok h1 t rs n q).mpr ⟨z.1, z.2.2⟩, z.2.1⟩)]
end ZZ1
