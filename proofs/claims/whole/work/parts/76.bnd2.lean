section XD2
theorem addT_le {f : Nat → Int} {i : Nat} {z : Int} {a b : Nat} (hf : ∀ j, (f j).natAbs ≤ a) (hz : z.natAbs ≤ b) (j : Nat) : (addT f i z j).natAbs ≤ a + b := by
  unfold addT
  split
  · have := Int.natAbs_add_le (f j) z
    have := hf j
    omega
  · have := hf j
    omega
theorem mul4 {a b e f A B C D : Nat} (h1 : a ≤ A) (h2 : b ≤ B) (h3 : e ≤ C) (h4 : f ≤ D) : a * b * e * f ≤ A * B * C * D := Nat.mul_le_mul (Nat.mul_le_mul (Nat.mul_le_mul h1 h2) h3) h4
/-- a shape's entries are small -/
theorem shP_le {c : mCf} (hok : okL c) {k q : Nat} (hk : k < c.m) (hq : q ≤ 4) (i : Nat) : (shP c k q (fun _ => 0) i).natAbs ≤ 1000000 := by
  have hm := hok.1
  have hL := (hok.2 k (by omega)).1
  have hs := scP_le hok hm
  have a1 : scP c c.m * (4 - q) * (4 - q) * (4 + 2 * q) ≤ 1728 * 4 * 4 * 12 := mul4 hs (by omega) (by omega) (by omega)
  have a2 : c.L k * q * (4 - q) * (4 - q) ≤ 12 * 4 * 4 * 4 := mul4 hL.2 hq (by omega) (by omega)
  have a3 : scP c c.m * q * q * (12 - 2 * q) ≤ 1728 * 4 * 4 * 12 := mul4 hs hq hq (by omega)
  have a4 : c.L k * q * q * (4 - q) ≤ 12 * 4 * 4 * 4 := mul4 hL.2 hq hq (by omega)
  unfold shP
  have b0 : ∀ j, ((fun _ => 0 : Nat → Int) j).natAbs ≤ 0 := fun j => Nat.le_refl _
  have b1 := addT_le b0 (i := k) (z := ((scP c c.m * (4 - q) * (4 - q) * (4 + 2 * q) : Nat) : Int)) (b := 331776) (by rw [Int.natAbs_natCast]; exact a1)
  have b2 := addT_le b1 (i := esP c (2 * k)) (z := ((c.L k * q * (4 - q) * (4 - q) : Nat) : Int)) (b := 768) (by rw [Int.natAbs_natCast]; exact a2)
  have b3 := addT_le b2 (i := k + 1) (z := ((scP c c.m * q * q * (12 - 2 * q) : Nat) : Int)) (b := 331776) (by rw [Int.natAbs_natCast]; exact a3)
  have b4 := addT_le b3 (i := esP c (2 * k + 1)) (z := -((c.L k * q * q * (4 - q) : Nat) : Int)) (b := 768) (by rw [Int.natAbs_neg, Int.natAbs_natCast]; exact a4)
  have := b4 i
  omega
theorem enP_le {c : mCf} {k : Nat} {x y z : Int} {a : Nat} (hx : x.natAbs ≤ a) (hy : y.natAbs ≤ a) (hz : z.natAbs ≤ a) (i : Nat) : (enP c k x y z (fun _ => 0) i).natAbs ≤ 4 * a := by
  unfold enP
  have b0 : ∀ j, ((fun _ => 0 : Nat → Int) j).natAbs ≤ 0 := fun j => Nat.le_refl _
  have b1 := addT_le b0 (i := k) hx
  have b2 := addT_le b1 (i := esP c (2 * k)) hy
  have b3 := addT_le b2 (i := k + 1) (z := -x) (b := a) (by rw [Int.natAbs_neg]; exact hx)
  have b4 := addT_le b3 (i := esP c (2 * k + 1)) hz
  have := b4 i
  omega
theorem adj_node {c : mCf} (hm : c.m ≤ 3) : ∀ n, n < 4 → adj c n c.m ≤ (if n = 1 ∨ n = 2 then 2 else 1) := by
  intro n hn
  have h : ∀ k, k < 3 → ∀ n, n < 4 → ((n = coP c k 0 ∨ n = coP c k 1 ∨ n = coP c k 2 ∨ n = coP c k 3) ↔ (n = k ∨ n = k + 1)) := fun k hk n hn => by
    have e1 := esP_lt (c := c) (e := 2 * k) (by omega)
    have e2 := esP_lt (c := c) (e := 2 * k + 1) (by omega)
    have c0 : coP c k 0 = k := rfl
    have c1 : coP c k 1 = esP c (2 * k) := rfl
    have c2 : coP c k 2 = k + 1 := rfl
    have c3 : coP c k 3 = esP c (2 * k + 1) := rfl
    omega
  have st : ∀ k, k < 3 → adj c n (k + 1) = adj c n k + (if n = k ∨ n = k + 1 then 1 else 0) := fun k hk => by
    show adj c n k + _ = _
    by_cases e : n = k ∨ n = k + 1
    · rw [if_pos ((h k hk n hn).mpr e), if_pos e]
    · rw [if_neg (fun z => e ((h k hk n hn).mp z)), if_neg e]
  have s0 : adj c n 0 = 0 := rfl
  have s1 := st 0 (by decide)
  have s2 := st 1 (by decide)
  have s3 := st 2 (by decide)
  rcases (by omega : c.m = 0 ∨ c.m = 1 ∨ c.m = 2 ∨ c.m = 3) with e | e | e | e <;> rw [e] <;> rcases (by omega : n = 0 ∨ n = 1 ∨ n = 2 ∨ n = 3) with rfl | rfl | rfl | rfl <;> simp at s1 s2 s3 ⊢ <;> omega
theorem lfP_sm {c : mCf} (hok : okL c) {w k q : Nat} (hr : okRow c (w, k, q)) : sm3 (lfP c w k q) := by
  have hr' : (w ≤ 2 ∧ k < c.m ∧ q ≤ 4) ∨ (w = 3 ∧ k ≤ c.m ∧ q = 0) := hr
  have hm := hok.1
  intro i hi
  rcases (by omega : w = 0 ∨ w = 1 ∨ w = 2 ∨ w = 3) with rfl | rfl | rfl | rfl
  · have hrt := rtP_le hok (show k < c.m by omega)
    have hx : ((((12 : Nat) : Int) - ((6 * q : Nat) : Int)) * ((rtP c k : Nat) : Int)).natAbs ≤ 1584 := by
      rw [Int.natAbs_mul, Int.natAbs_natCast]
      have q1 : (((12 : Nat) : Int) - ((6 * q : Nat) : Int)).natAbs ≤ 12 := by omega
      exact Nat.mul_le_mul q1 hrt
    have := enP_le (c := c) (k := k) hx (show (((8 : Nat) : Int) - ((3 * q : Nat) : Int)).natAbs ≤ 1584 by omega) (show (((4 : Nat) : Int) - ((3 * q : Nat) : Int)).natAbs ≤ 1584 by omega) i
    exact Nat.le_trans this (by decide)
  · have hrt := rtP_le hok (show k < c.m by omega)
    have := enP_le (c := c) (k := k) (a := 264) (show (((2 * rtP c k : Nat) : Int)).natAbs ≤ 264 by rw [Int.natAbs_natCast]; omega) (show (((1 : Nat) : Int)).natAbs ≤ 264 by decide) (show (((1 : Nat) : Int)).natAbs ≤ 264 by decide) i
    exact Nat.le_trans this (by decide)
  · exact Nat.le_trans (shP_le hok (by omega) (by omega) i) (by decide)
  · show (0 + puP c (k * 10 + i)).natAbs ≤ _
    rw [Int.zero_add]
    have h1 := puP_le hok (s := k) (t := i) (by omega) hi
    have h2 := adj_le c k c.m
    exact Nat.le_trans h1 (Nat.le_trans (Nat.mul_le_mul_right _ (show adj c k c.m ≤ 3 by omega)) (by decide))
theorem lfA_sm {c : mCf} (hok : okL c) : sm3 (lfA c (c.m + 1)) := by
  have hm := hok.1
  intro i hi
  have hn := adj_node hm
  have st : ∀ n, n < 4 → (lfA c (n + 1) i).natAbs ≤ (lfA c n i).natAbs + (if n = 1 ∨ n = 2 then 2 else 1) * 331195392 := fun n hn4 => by
    show (if c.Hi n = true then lfA c n i + puP c (n * 10 + i) else lfA c n i).natAbs ≤ _
    have h1 := puP_le hok (s := n) (t := i) (by omega) hi
    have h2 := Nat.mul_le_mul_right 331195392 (hn n hn4)
    have h3 := Int.natAbs_add_le (lfA c n i) (puP c (n * 10 + i))
    split
    · exact Nat.le_trans h3 (Nat.add_le_add_left (Nat.le_trans h1 h2) _)
    · exact Nat.le_add_right _ _
  have s0 : (lfA c 0 i).natAbs = 0 := rfl
  have s1 := st 0 (by decide)
  have s2 := st 1 (by decide)
  have s3 := st 2 (by decide)
  have s4 := st 3 (by decide)
  simp at s1 s2 s3 s4
  rcases (by omega : c.m = 0 ∨ c.m = 1 ∨ c.m = 2 ∨ c.m = 3) with e | e | e | e <;> rw [e] <;> simp <;> omega
theorem orP_le {as : Nat → Bool} {rg : Nat → Int} {a : Nat} (h : ∀ i, (rg i).natAbs ≤ a) : ∀ n, (orP as rg n).natAbs ≤ n * a
  | 0 => by show (0 : Int).natAbs ≤ _; simp
  | n + 1 => by
    have h1 := orP_le (as := as) h n
    show (orP as rg n + (if as n = true then rg n else 0)).natAbs ≤ _
    rw [Nat.succ_mul]
    split
    · have := Int.natAbs_add_le (orP as rg n) (rg n)
      have := h n
      omega
    · rw [Int.add_zero]; omega
theorem owP_le {c : mCf} (hok : okL c) {w k q i j : Nat} (hr : okRow c (w, k, q)) (hi : i < c.m) (hj : j ≤ 4) (as : Nat → Bool) : (owP c w k q i j as).natAbs ≤ 3000000000 := by
  have hr' : (w ≤ 2 ∧ k < c.m ∧ q ≤ 4) ∨ (w = 3 ∧ k ≤ c.m ∧ q = 0) := hr
  have hm := hok.1
  have hs := scP_le hok hm
  have c1 : (4 - j) * (4 - j) ≤ 4 * 4 := Nat.mul_le_mul (by omega) (by omega)
  have c2 : (4 - j) * (4 - j) * (4 + 2 * j) ≤ 4 * 4 * 12 := Nat.mul_le_mul c1 (by omega)
  have c3 : j * (4 - j) * (4 - j) ≤ 4 * 4 * 4 := Nat.mul_le_mul (Nat.mul_le_mul hj (by omega)) (by omega)
  unfold owP
  split
  · exact Nat.le_trans (orP_le (shP_le hok hi hj) 4) (by decide)
  · split
    · decide
    · have hk : k < c.m := by omega
      have hL := (hok.2 k (by omega)).1
      have hq : q ≤ 4 := by omega
      split
      · unfold owM
        rw [Int.natAbs_mul, Int.natAbs_natCast]
        have d1 : (4 - j) * (4 - j) * (4 + 2 * j) * q ≤ 4 * 4 * 12 * 4 := Nat.mul_le_mul c2 hq
        have d2 : ((((4 - j) * (4 - j) * (4 + 2 * j) * q : Nat) : Int) - ((4 * (j * (4 - j) * (4 - j)) : Nat) : Int) - ((64 * (q - j) : Nat) : Int)).natAbs ≤ 2000 := by
          generalize (4 - j) * (4 - j) * (4 + 2 * j) * q = X at *
          generalize j * (4 - j) * (4 - j) = Y at *
          omega
        exact Nat.le_trans (Nat.mul_le_mul hL.2 d2) (by decide)
      · split
        · unfold owV
          rw [Int.natAbs_mul, Int.natAbs_natCast]
          have e1 : c.L k * c.L k * c.L k ≤ 12 * 12 * 12 := Nat.mul_le_mul (Nat.mul_le_mul hL.2 hL.2) hL.2
          have e2 : q * q ≤ 4 * 4 := Nat.mul_le_mul hq hq
          have e3 : 12 * (j * (4 - j) * (4 - j)) * (q * q) ≤ 768 * 16 := Nat.mul_le_mul (by omega) e2
          have e4 : (4 - j) * (4 - j) * (4 + 2 * j) * (q * q) * q ≤ 192 * 16 * 4 := Nat.mul_le_mul (Nat.mul_le_mul c2 e2) hq
          have e5 : 64 * (q - j) * (q - j) * (q - j) ≤ 256 * 4 * 4 := Nat.mul_le_mul (Nat.mul_le_mul (by omega) (by omega)) (by omega)
          have d2 : ((((12 * (j * (4 - j) * (4 - j)) * (q * q) : Nat) : Int) - (((4 - j) * (4 - j) * (4 + 2 * j) * (q * q) * q : Nat) : Int)) + ((64 * (q - j) * (q - j) * (q - j) : Nat) : Int)).natAbs ≤ 30000 := by
            generalize 12 * (j * (4 - j) * (4 - j)) * (q * q) = X at *
            generalize (4 - j) * (4 - j) * (4 + 2 * j) * (q * q) * q = Y at *
            generalize 64 * (q - j) * (q - j) * (q - j) = Z at *
            omega
          exact Nat.le_trans (Nat.mul_le_mul e1 d2) (by decide)
        · unfold owS
          split
          · decide
          · rw [Int.natAbs_mul, Int.natAbs_natCast]
            have d2 : (if 0 < q - j then (((4 - j) * (4 - j) * (4 + 2 * j) : Nat) : Int) - ((64 : Nat) : Int) else (((4 - j) * (4 - j) * (4 + 2 * j) : Nat) : Int)).natAbs ≤ 1000 := by
              generalize (4 - j) * (4 - j) * (4 + 2 * j) = X at *
              split <;> omega
            exact Nat.le_trans (Nat.mul_le_mul hs d2) (by decide)
theorem gnP_le {c : mCf} (hok : okL c) {w k q : Nat} (hr : okRow c (w, k, q)) : (gnP c w k).natAbs ≤ 3000000000 := by
  have hr' : (w ≤ 2 ∧ k < c.m ∧ q ≤ 4) ∨ (w = 3 ∧ k ≤ c.m ∧ q = 0) := hr
  have hm := hok.1
  have hs := scP_le hok hm
  unfold gnP
  split
  · have hE := (hok.2 k (by omega)).2
    rw [Int.natAbs_natCast]
    exact Nat.le_trans (Nat.mul_le_mul (Nat.mul_le_mul_left 2 hE.2) (rtP_le hok (by omega))) (by decide)
  · split
    · have hE := (hok.2 k (by omega)).2
      rw [Int.natAbs_natCast]
      exact Nat.le_trans (Nat.mul_le_mul (Nat.mul_le_mul_left 6 hE.2) hs) (by decide)
    · split
      · decide
      · have hE := (hok.2 k (by omega)).2
        have hr2 := rtP_le hok (show k < c.m by omega)
        rw [Int.natAbs_mul, Int.natAbs_mul, Int.natAbs_mul, Int.natAbs_natCast, Int.natAbs_natCast]
        exact Nat.le_trans (Nat.mul_le_mul (Nat.mul_le_mul (Nat.mul_le_mul_left 6 hE.2) hr2) hr2) (by decide)
theorem whP_le {c : mCf} (hok : okL c) {w k q : Nat} (hr : okRow c (w, k, q)) : (whP c w k).natAbs ≤ 3000000000 := by
  have hr' : (w ≤ 2 ∧ k < c.m ∧ q ≤ 4) ∨ (w = 3 ∧ k ≤ c.m ∧ q = 0) := hr
  have hm := hok.1
  have hs := scP_le hok hm
  unfold whP
  split
  · decide
  · split
    · have hE := (hok.2 k (by omega)).2
      rw [Int.natAbs_natCast]
      exact Nat.le_trans (Nat.mul_le_mul_left 24576 hE.2) (by decide)
    · rw [Int.natAbs_natCast]
      exact Nat.le_trans (Nat.mul_le_mul_left 64 hs) (by decide)
end XD2
