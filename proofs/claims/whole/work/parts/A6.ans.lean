section ZY1
theorem nat_red {p q p' q' : Nat} (hq : 0 < q) (hq' : 0 < q') (h : p * q' = p' * q) : p / Nat.gcd p q = p' / Nat.gcd p' q' ∧ q / Nat.gcd p q = q' / Nat.gcd p' q' := by
  have hg : 0 < Nat.gcd p q := Nat.gcd_pos_of_pos_right _ hq
  have hg' : 0 < Nat.gcd p' q' := Nat.gcd_pos_of_pos_right _ hq'
  obtain ⟨a, b, hab, ha, hb⟩ := Nat.exists_coprime p q
  obtain ⟨a', b', hab', ha', hb'⟩ := Nat.exists_coprime p' q'
  have e1 : p / Nat.gcd p q = a := Nat.div_eq_of_eq_mul_left hg ha
  have e2 : q / Nat.gcd p q = b := Nat.div_eq_of_eq_mul_left hg hb
  have e3 : p' / Nat.gcd p' q' = a' := Nat.div_eq_of_eq_mul_left hg' ha'
  have e4 : q' / Nat.gcd p' q' = b' := Nat.div_eq_of_eq_mul_left hg' hb'
  rw [e1, e2, e3, e4]
  generalize Nat.gcd p q = g at *
  generalize Nat.gcd p' q' = g' at *
  have h2 : a * b' = a' * b := by
    rw [ha, hb, ha', hb'] at h
    have : (g * g') * (a * b') = (g * g') * (a' * b) := by grind
    exact Nat.eq_of_mul_eq_mul_left (Nat.mul_pos hg hg') this
  refine ⟨Nat.dvd_antisymm ?_ ?_, Nat.dvd_antisymm ?_ ?_⟩
  · exact hab.dvd_of_dvd_mul_right (show a ∣ a' * b from ⟨b', h2.symm⟩)
  · exact hab'.dvd_of_dvd_mul_right (show a' ∣ a * b' from ⟨b, h2⟩)
  · exact hab.symm.dvd_of_dvd_mul_left (show b ∣ a * b' from ⟨a', by rw [h2, Nat.mul_comm]⟩)
  · exact hab'.symm.dvd_of_dvd_mul_left (show b' ∣ a' * b from ⟨a, by rw [← h2, Nat.mul_comm]⟩)
theorem tdiv_nat (u : Int) (g : Nat) : u.tdiv (g : Int) = u.sign * ((u.natAbs / g : Nat) : Int) := by
  rcases Int.lt_trichotomy u 0 with h | h | h
  · obtain ⟨n, rfl⟩ : ∃ n : Nat, u = -(n : Int) := ⟨u.natAbs, by omega⟩
    rw [Int.neg_tdiv, Int.sign_eq_neg_one_of_neg h, Int.natAbs_neg, Int.natAbs_natCast, ← Int.ofNat_tdiv]; omega
  · rw [h]; simp
  · obtain ⟨n, rfl⟩ : ∃ n : Nat, u = (n : Int) := ⟨u.natAbs, by omega⟩
    rw [Int.sign_eq_one_of_pos h, Int.natAbs_natCast, ← Int.ofNat_tdiv, Int.one_mul]
theorem red_eq {u v a b : Int} (hv : 0 < v) (hb : b ≠ 0) (h : u * b = a * v) : rcU u v = redP a b ∧ rcL u v = redQ a b := by
  have hn : u.natAbs * b.natAbs = a.natAbs * v.natAbs := by rw [← Int.natAbs_mul, h, Int.natAbs_mul]
  have hr := nat_red (by omega : 0 < v.natAbs) (by omega : 0 < b.natAbs) hn
  have hs : u.sign = a.sign * b.sign := by
    have e := congrArg Int.sign h
    rw [Int.sign_mul, Int.sign_mul, Int.sign_eq_one_of_pos hv, Int.mul_one] at e
    rcases Int.lt_or_gt_of_ne hb with f | f
    · rw [Int.sign_eq_neg_one_of_neg f] at e ⊢; omega
    · rw [Int.sign_eq_one_of_pos f] at e ⊢; omega
  constructor
  · unfold rcU redP
    rw [tdiv_nat, hr.1, hs]
  · unfold rcL redQ
    rw [tdiv_nat, hr.2, Int.sign_eq_one_of_pos hv, Int.one_mul]
theorem wh_eq {c : mCf} {w k q : Nat} (hr : okRow c (w, k, q)) : whP c w k = 64 * kap c w * (overP c w k : Nat) := by
  have hr' : (w ≤ 2 ∧ k < c.m ∧ q ≤ 4) ∨ (w = 3 ∧ k ≤ c.m ∧ q = 0) := hr
  have hw : w = 0 ∨ w = 1 ∨ w = 2 ∨ w = 3 := by omega
  rcases hw with rfl | rfl | rfl | rfl
  · rfl
  · show ((64 * scP c c.m : Nat) : Int) = 64 * (scP c c.m : Int) * ((1 : Nat) : Int); omega
  · show ((24576 * c.E k : Nat) : Int) = 64 * 1 * ((384 * c.E k : Nat) : Int); omega
  · show ((64 * scP c c.m : Nat) : Int) = 64 * (scP c c.m : Int) * ((1 : Nat) : Int); omega
theorem over_pos {c : mCf} (hok : okL c) {w k q : Nat} (hr : okRow c (w, k, q)) : 0 < overP c w k := by
  have hr' : (w ≤ 2 ∧ k < c.m ∧ q ≤ 4) ∨ (w = 3 ∧ k ≤ c.m ∧ q = 0) := hr
  unfold overP
  split
  · decide
  · split
    · have := (hok.2 k (by have := hok.1; omega)).2.1; omega
    · decide
theorem kap_pos {c : mCf} (hok : okL c) (w : Nat) : 0 < kap c w := by
  have := (scP_ok hok c.m hok.1).1
  unfold kap
  split <;> omega
theorem atL_pos {c : mCf} (hok : okL c) {w k q : Nat} (hr : okRow c (w, k, q)) : 0 < atL c (w, k, q) := by
  show 0 < (swP c 10).2.1 * whP c w k
  rw [wh_eq hr]
  have h1 := swp_pos hok
  have h2 := kap_pos hok w
  have h3 := over_pos hok hr
  exact Int.mul_pos h1 (Int.mul_pos (Int.mul_pos (by decide) h2) (by omega))
theorem at_cross {c : mCf} (hok : okL c) (h1 : 1 ≤ c.m) (hl : looseB c = false) {r : Nat × Nat × Nat} (hr : okRow c r) {lm lp : Nat} (hlm : lm < c.m) (hlp : lp ≤ 4) : atU c r lm lp * (solD c * (overP c r.1 r.2.1 : Nat)) = vOf c r lm lp * atL c r := by
  obtain ⟨w, k, q⟩ := r
  have h := val_eq hok h1 hl hr hlm hlp
  have hw := wh_eq hr
  show atU c (w, k, q) lm lp * (solD c * (overP c w k : Nat)) = vOf c (w, k, q) lm lp * ((swP c 10).2.1 * whP c w k)
  rw [hw]
  generalize (overP c w k : Nat) = o at *
  calc atU c (w, k, q) lm lp * (solD c * (o : Int)) = (solD c * atU c (w, k, q) lm lp) * o := by grind
    _ = _ := by rw [h]; grind
/-- the rows that are told -/
def rOk (c : mCf) (rs : List (Nat × Nat × Nat)) : Prop := ∀ i, i < rs.length → okRow c (rowAt rs i)
theorem an_eq {c : mCf} (hok : okL c) (h1 : 1 ≤ c.m) (t : List Nat) (rs : List (Nat × Nat × Nat)) (n q : Int) : isAn c rs n q = true ↔ isRw (c, t, rs) n = true ∧ -1 ≤ q := by
  have hs := (solve_eq hok h1).2
  unfold isAn isRw
  rw [decide_eq_true_iff, decide_eq_true_iff]
  have e : slN (slC c) 4 = 0 ↔ looseB c = false := by
    cases hb : looseB c
    · exact ⟨fun _ => rfl, fun _ => by
        have := mt hs.mpr (by rw [hb]; decide); omega⟩
    · exact ⟨fun z => by have := hs.mp hb; omega, fun z => absurd z (by decide)⟩
  show (-1 ≤ q ∧ 0 ≤ n ∧ n < (rs.length : Int) ∧ slN (slC c) 4 = 0 ∧ ((rowAt rs n.toNat).1 ≠ 3 ∨ c.Hi (rowAt rs n.toNat).2.1 = true)) ↔ (0 ≤ n ∧ n < (rs.length : Int) ∧ looseB c = false ∧ ((rowAt rs n.toNat).1 ≠ 3 ∨ c.Hi (rowAt rs n.toNat).2.1 = true)) ∧ -1 ≤ q
  rw [e]
  constructor
  · rintro ⟨a, b, d, f, g⟩; exact ⟨⟨b, d, f, g⟩, a⟩
  · rintro ⟨⟨b, d, f, g⟩, a⟩; exact ⟨a, b, d, f, g⟩
theorem rw_of {c : mCf} {t : List Nat} {rs : List (Nat × Nat × Nat)} {n : Int} (h : isRw (c, t, rs) n = true) : 0 ≤ n ∧ n < (rs.length : Int) ∧ looseB c = false := by
  have := of_decide_eq_true h
  exact ⟨this.1, this.2.1, this.2.2.1⟩
theorem at_eq {c : mCf} (hok : okL c) (h1 : 1 ≤ c.m) (t : List Nat) {rs : List (Nat × Nat × Nat)} (hrs : rOk c rs) (n k p q : Int) : cAt c rs n k p q = spAt (c, t, rs) n k p q := by
  unfold cAt spAt
  by_cases hA : isAn c rs n q = true ∧ plB c k p = true
  · have hB := (an_eq hok h1 t rs n q).mp hA.1
    rw [if_pos hA, if_pos ⟨hB.1, hA.2, hB.2⟩]
    obtain ⟨a1, a2, hl⟩ := rw_of hB.1
    have hp := of_decide_eq_true hA.2
    have hr := hrs n.toNat (by omega)
    have hne : solD c * (overP c (rowAt rs n.toNat).1 (rowAt rs n.toNat).2.1 : Nat) ≠ 0 := Int.mul_ne_zero (solD_ne hok h1 hl) (by
      have := over_pos hok (w := (rowAt rs n.toNat).1) (k := (rowAt rs n.toNat).2.1) (q := (rowAt rs n.toNat).2.2) hr; omega)
    have hx := at_cross hok h1 hl hr (lm := k.toNat) (lp := p.toNat) (by omega) (by omega)
    obtain ⟨e1, e2⟩ := red_eq (atL_pos hok (w := (rowAt rs n.toNat).1) (k := (rowAt rs n.toNat).2.1) (q := (rowAt rs n.toNat).2.2) hr) hne hx
    show tellv q (rcU _ _) (rcL _ _) = tellv q (redP _ _) (redQ _ _)
    rw [← e1, ← e2]
  · rw [if_neg hA, if_neg (fun z => hA ⟨(an_eq hok h1 t rs n q).mpr ⟨z.1, z.2.2⟩, z.2.1⟩)]
/-- exchanging places -/
theorem tuC_all {c : mCf} {b q : Nat} : ∀ n, tuC c b q n = true ↔ ∀ i, i < n → exC c b q (i / 5) (i % 5) = true
  | 0 => ⟨fun _ i hi => by omega, fun _ => rfl⟩
  | n + 1 => by
    show (tuC c b q n && exC c b q (n / 5) (n % 5)) = true ↔ _
    rw [Bool.and_eq_true, tuC_all n]
    constructor
    · rintro ⟨h, h2⟩ i hi
      by_cases e : i = n
      · rw [e]; exact h2
      · exact h i (by omega)
    · intro h; exact ⟨fun i hi => h i (by omega), h n (by omega)⟩
theorem tuA_all {c : mCf} {q : Nat × Nat × Nat} : ∀ u k, tuA c q u k = true ↔ ∀ i, k ≤ i → i < k + u → tuE c q i = true
  | 0, k => ⟨fun _ i h1 h2 => by omega, fun _ => rfl⟩
  | u + 1, k => by
    show (tuE c q k && tuA c q u (k + 1)) = true ↔ _
    rw [Bool.and_eq_true, tuA_all u (k+1)]
    constructor
    · rintro ⟨h, h2⟩ i a b
      by_cases e : i = k
      · rw [e]; exact h
      · exact h2 i (by omega) (by omega)
    · intro h; exact ⟨h k (by omega) (by omega), fun i a b => h i (by omega) (by omega)⟩
theorem ex_eq {c : mCf} (hok : okL c) (h1 : 1 ≤ c.m) (hl : looseB c = false) {b q i : Nat} (hr : okRow c (2, b, q)) (hi : i < 5 * c.m) : exC c b q (i / 5) (i % 5) = tuE c (2, b, q) i := by
  have hr' : (2 ≤ 2 ∧ b < c.m ∧ q ≤ 4) ∨ (2 = 3 ∧ b ≤ c.m ∧ q = 0) := hr
  have hk : i / 5 < c.m := by omega
  have v1 := val_eq hok h1 hl (w := 2) (k := i / 5) (q := i % 5) (lm := b) (lp := q) (Or.inl ⟨show 2 ≤ 2 by omega, hk, show i % 5 ≤ 4 by omega⟩) (by omega) (by omega)
  have v2 := val_eq hok h1 hl hr (lm := i / 5) (lp := i % 5) hk (by omega)
  have hD := solD_ne hok h1 hl
  have hd := swp_pos hok
  have e : vOf c (2, i / 5, i % 5) b q = valP c 2 (i / 5) (i % 5) b q (4 * c.m + 5 * b + q) := rfl
  rw [e] at v1
  unfold exC tuE
  show decide (atU c (2, i / 5, i % 5) b q * (c.E b : Int) = atU c (2, b, q) (i / 5) (i % 5) * (c.E (i / 5) : Int)) = decide (valP c 2 (i / 5) (i % 5) b q (4 * c.m + 5 * b + q) * (c.E b : Int) = vOf c (2, b, q) (i / 5) (i % 5) * (c.E (i / 5) : Int))
  have k2 : kap c 2 = 1 := rfl
  rw [k2] at v1 v2
  generalize atU c (2, i / 5, i % 5) b q = A at *
  generalize atU c (2, b, q) (i / 5) (i % 5) = B at *
  generalize valP c 2 (i / 5) (i % 5) b q (4 * c.m + 5 * b + q) = V at *
  generalize vOf c (2, b, q) (i / 5) (i % 5) = W at *
  generalize solD c = D at *
  generalize (swP c 10).2.1 = d at *
  refine decide_eq_decide.mpr ⟨fun h => ?_, fun h => ?_⟩
  · refine Int.eq_of_mul_eq_mul_left (show 64 * 1 * d ≠ 0 by omega) ?_
    calc 64 * 1 * d * (V * (c.E b : Int)) = D * (A * (c.E b : Int)) := by rw [← Int.mul_assoc, ← v1]; grind
      _ = D * (B * (c.E (i / 5) : Int)) := by rw [h]
      _ = _ := by rw [← Int.mul_assoc, v2]; grind
  · refine Int.eq_of_mul_eq_mul_left hD ?_
    calc D * (A * (c.E b : Int)) = D * A * (c.E b : Int) := by grind
      _ = 64 * 1 * d * (V * (c.E b : Int)) := by rw [v1]; grind
      _ = D * B * (c.E (i / 5) : Int) := by rw [v2, h]; grind
      _ = _ := by grind
theorem turned_eq {c : mCf} (hok : okL c) (h1 : 1 ≤ c.m) (t : List Nat) {rs : List (Nat × Nat × Nat)} (hrs : rOk c rs) (n : Int) : cTn c rs n = spTurned (c, t, rs) n := by
  have hs := (solve_eq hok h1).2
  rw [Bool.eq_iff_iff]
  unfold cTn spTurned isRw
  rw [Bool.and_eq_true, Bool.and_eq_true, Bool.and_eq_true, decide_eq_true_iff, decide_eq_true_iff, decide_eq_true_iff]
  have e0 : slN (slC c) 4 = 0 ↔ looseB c = false := by
    cases hb : looseB c
    · exact ⟨fun _ => rfl, fun _ => by
        have := mt hs.mpr (by rw [hb]; decide); omega⟩
    · exact ⟨fun z => by have := hs.mp hb; omega, fun z => absurd z (by decide)⟩
  show ((0 ≤ n ∧ n < (rs.length : Int) ∧ (rowAt rs n.toNat).1 = 2 ∧ slN (slC c) 4 = 0) ∧ tuC c (rowAt rs n.toNat).2.1 (rowAt rs n.toNat).2.2 (5 * c.m) = true) ↔ ((0 ≤ n ∧ n < (rs.length : Int) ∧ looseB c = false ∧ ((rowAt rs n.toNat).1 ≠ 3 ∨ c.Hi (rowAt rs n.toNat).2.1 = true)) ∧ (rowAt rs n.toNat).1 = 2 ∧ tuA c (rowAt rs n.toNat) (5 * c.m) 0 = true)
  rw [e0]
  have key : 0 ≤ n → n < (rs.length : Int) → looseB c = false → (rowAt rs n.toNat).1 = 2 → (tuC c (rowAt rs n.toNat).2.1 (rowAt rs n.toNat).2.2 (5 * c.m) = true ↔ tuA c (rowAt rs n.toNat) (5 * c.m) 0 = true) := fun a b hl h2 => by
    have hr := hrs n.toNat (by omega)
    generalize hg : rowAt rs n.toNat = r at *
    obtain ⟨w, b', q⟩ := r
    have h2 : w = 2 := h2
    subst h2
    rw [tuC_all, tuA_all]
    constructor
    · intro h i _ hi; rw [← ex_eq hok h1 hl hr (by omega)]; exact h i (by omega)
    · intro h i hi; rw [ex_eq hok h1 hl hr (by omega)]; exact h i (by omega) (by omega)
  constructor
  · rintro ⟨⟨a, b, d, e⟩, f⟩
    exact ⟨⟨a, b, e, Or.inl (by omega)⟩, d, (key a b e d).mp f⟩
  · rintro ⟨⟨a, b, e, g⟩, d, f⟩
    exact ⟨⟨a, b, d, e⟩, (key a b e d).mpr f⟩
/-- all reactions together -/
theorem prI_add (fr : Nat → Bool) (A : Nat → Nat → Int) (f g rg : Nat → Int) (n : Nat) : prI fr A (fun i => f i + g i) rg n = prI fr A f rg n + prI fr A g rg n := by
  rw [prI_zS, prI_zS, prI_zS, ← zS_add]
  refine zS_congr (fun i _ => ?_)
  split
  · rw [Int.mul_add]
  · rfl
theorem prI_0 (fr : Nat → Bool) (A : Nat → Nat → Int) (rg : Nat → Int) (n : Nat) : prI fr A (fun _ => 0) rg n = 0 := by
  rw [prI_zS]
  exact zS_zero (fun i _ => by split <;> simp)
theorem sum_at {c : mCf} (hok : okL c) (h1 : 1 ≤ c.m) (hl : looseB c = false) {lm lp : Nat} (hlm : lm < c.m) (hlp : lp ≤ 4) (i : Nat) (hi : i / 5 = lm ∧ i % 5 = lp) : ∀ n, n ≤ c.m + 1 → solD c * (prI (frP c) (swP c 10).1 (lfA c n) (shP c lm lp (fun _ => 0)) 10 * -1 + (swP c 10).2.1 * orP (fun j => decide (j < n) && c.Hi j) (shP c lm lp (fun _ => 0)) n) = 64 * (scP c c.m : Int) * (swP c 10).2.1 * sR c i n
  | 0, _ => by
    show solD c * (prI (frP c) (swP c 10).1 (fun _ => 0) _ 10 * -1 + (swP c 10).2.1 * 0) = _ * 0
    rw [prI_0]; omega
  | n + 1, hn => by
    have hm := hok.1
    have ih := sum_at hok h1 hl hlm hlp i hi n (by omega)
    have orc : ∀ (a b : Nat → Bool) (t : Nat), (∀ j, j < t → a j = b j) → orP a (shP c lm lp (fun _ => 0)) t = orP b (shP c lm lp (fun _ => 0)) t := by
      intro a b t
      induction t with
      | zero => intro _; rfl
      | succ t iht => intro h; unfold orP; rw [iht (fun j hj => h j (by omega)), h t (by omega)]
    have o1 : orP (fun j => decide (j < n + 1) && c.Hi j) (shP c lm lp (fun _ => 0)) (n + 1) = orP (fun j => decide (j < n) && c.Hi j) (shP c lm lp (fun _ => 0)) n + (if c.Hi n = true then shP c lm lp (fun _ => 0) n else 0) := by
      show orP _ _ n + (if (decide (n < n + 1) && c.Hi n) = true then _ else 0) = _
      rw [orc _ (fun j => decide (j < n) && c.Hi j) n (fun j hj => by rw [decide_eq_true (show j < n + 1 by omega), decide_eq_true hj]), decide_eq_true (show n < n + 1 by omega), Bool.true_and]
    rw [o1]
    show solD c * (prI (frP c) (swP c 10).1 (fun i => if c.Hi n = true then lfA c n i + puP c (n * 10 + i) else lfA c n i) _ 10 * -1 + _) = _ * (if c.Hi n = true then sR c i n + 1 * valP c 3 n 0 (i / 5) (i % 5) (4 * c.m + 5 * (i / 5) + i % 5) else sR c i n)
    cases hH : c.Hi n
    · simp only [Bool.false_eq_true, if_false, Int.add_zero]
      exact ih
    · simp only [if_true]
      have hv := val_eq hok h1 hl (w := 3) (k := n) (q := 0) (lm := lm) (lp := lp) (Or.inr ⟨rfl, show n ≤ c.m by omega, rfl⟩) hlm hlp
      have e1 : atU c (3, n, 0) lm lp = prI (frP c) (swP c 10).1 (fun i => 0 + puP c (n * 10 + i)) (shP c lm lp (fun _ => 0)) 10 * -1 + (swP c 10).2.1 * orP (fun i => decide (i = n)) (shP c lm lp (fun _ => 0)) 4 := rfl
      have e2 : vOf c (3, n, 0) lm lp = valP c 3 n 0 lm lp (4 * c.m + 5 * lm + lp) := rfl
      have e3 : kap c 3 = (scP c c.m : Int) := rfl
      rw [e1, e2, e3, orP_one (by omega), prI_add, prI_0, Int.zero_add] at hv
      rw [prI_add, hi.1, hi.2]
      generalize prI (frP c) (swP c 10).1 (lfA c n) (shP c lm lp (fun _ => 0)) 10 = X at *
      generalize prI (frP c) (swP c 10).1 (fun i => puP c (n * 10 + i)) (shP c lm lp (fun _ => 0)) 10 = Y at *
      generalize orP (fun j => decide (j < n) && c.Hi j) (shP c lm lp (fun _ => 0)) n = O at *
      generalize shP c lm lp (fun _ => 0) n = S at *
      generalize valP c 3 n 0 lm lp (4 * c.m + 5 * lm + lp) = V at *
      grind
theorem su_eq {c : mCf} (hok : okL c) (h1 : 1 ≤ c.m) (hl : looseB c = false) {i : Nat} (hi : i < 5 * c.m) : suX c (i / 5) (i % 5) = suE c i := by
  have hm := hok.1
  have h := sum_at hok h1 hl (lm := i / 5) (lp := i % 5) (by omega) (by omega) i ⟨rfl, rfl⟩ (c.m + 1) (Nat.le_refl _)
  have hD := solD_ne hok h1 hl
  have hd := swp_pos hok
  have hsc := (scP_ok hok c.m hm).1
  unfold suX suE
  have e1 : orP (fun j => decide (j < c.m + 1) && c.Hi j) (shP c (i / 5) (i % 5) (fun _ => 0)) (c.m + 1) = orP (asA c) (shP c (i / 5) (i % 5) (fun _ => 0)) 4 := by
    have a : ∀ t, c.m + 1 + t ≤ 4 → orP (asA c) (shP c (i / 5) (i % 5) (fun _ => 0)) (c.m + 1 + t) = orP (asA c) (shP c (i / 5) (i % 5) (fun _ => 0)) (c.m + 1) := by
      intro t
      induction t with
      | zero => intro _; rfl
      | succ t ih =>
        intro ht
        rw [← Nat.add_assoc]
        show orP _ _ (c.m + 1 + t) + (if (decide (c.m + 1 + t ≤ c.m) && c.Hi (c.m + 1 + t)) = true then _ else 0) = _
        rw [decide_eq_false (by omega), Bool.false_and, if_neg (by decide), Int.add_zero]
        exact ih (by omega)
    have b := a (3 - c.m) (by omega)
    rw [show c.m + 1 + (3 - c.m) = 4 by omega] at b
    rw [b]
    have q : ∀ t, t ≤ c.m + 1 → orP (fun j => decide (j < c.m + 1) && c.Hi j) (shP c (i / 5) (i % 5) (fun _ => 0)) t = orP (asA c) (shP c (i / 5) (i % 5) (fun _ => 0)) t := by
      intro t
      induction t with
      | zero => intro _; rfl
      | succ t ih =>
        intro ht
        show orP _ _ t + (if (decide (t < c.m + 1) && c.Hi t) = true then _ else 0) = orP _ _ t + (if (decide (t ≤ c.m) && c.Hi t) = true then _ else 0)
        rw [ih (by omega), decide_eq_true (show t < c.m + 1 by omega), decide_eq_true (show t ≤ c.m by omega)]
    exact q _ (Nat.le_refl _)
  rw [e1] at h
  have e2 : meP c (lfA c (c.m + 1)) (-1) (owP c 3 0 0 (i / 5) (i % 5) (asA c)) (i / 5) (i % 5) = prI (frP c) (swP c 10).1 (lfA c (c.m + 1)) (shP c (i / 5) (i % 5) (fun _ => 0)) 10 * -1 + (swP c 10).2.1 * orP (asA c) (shP c (i / 5) (i % 5) (fun _ => 0)) 4 := rfl
  rw [e2]
  have c1 : ((64 * scP c c.m : Nat) : Int) = 64 * (scP c c.m : Int) := by omega
  rw [c1]
  generalize prI (frP c) (swP c 10).1 (lfA c (c.m + 1)) (shP c (i / 5) (i % 5) (fun _ => 0)) 10 * -1 + (swP c 10).2.1 * orP (asA c) (shP c (i / 5) (i % 5) (fun _ => 0)) 4 = X at *
  generalize sR c i (c.m + 1) = S at *
  generalize solD c = D at *
  generalize (swP c 10).2.1 = d at *
  have hs' : (scP c c.m : Int) ≠ 0 := by omega
  generalize (scP c c.m : Int) = s at *
  have hds : 64 * s * d ≠ 0 := Int.mul_ne_zero (Int.mul_ne_zero (by decide) hs') (by omega)
  refine decide_eq_decide.mpr ⟨fun e => ?_, fun e => ?_⟩
  · refine Int.eq_of_mul_eq_mul_left hds ?_
    rw [← h, e]; grind
  · refine Int.eq_of_mul_eq_mul_left hD ?_
    rw [h, e]; grind
theorem sums_eq {c : mCf} (hok : okL c) (h1 : 1 ≤ c.m) : cSu c = spSums c := by
  have hs := (solve_eq hok h1).2
  unfold cSu spSums
  cases hb : looseB c
  · have := mt hs.mpr (by rw [hb]; decide)
    rw [decide_eq_true (by omega), Bool.not_false, Bool.true_and, Bool.true_and, Bool.eq_iff_iff]
    have a : ∀ n, suC c n = true ↔ ∀ i, i < n → suX c (i / 5) (i % 5) = true := by
      intro n
      induction n with
      | zero => exact ⟨fun _ i hi => by omega, fun _ => rfl⟩
      | succ n ih =>
        show (suC c n && suX c (n / 5) (n % 5)) = true ↔ _
        rw [Bool.and_eq_true, ih]
        constructor
        · rintro ⟨h, h2⟩ i hi
          by_cases e : i = n
          · rw [e]; exact h2
          · exact h i (by omega)
        · intro h; exact ⟨fun i hi => h i (by omega), h n (by omega)⟩
    have b : ∀ u k, suA c u k = true ↔ ∀ i, k ≤ i → i < k + u → suE c i = true := by
      intro u
      induction u with
      | zero => intro k; exact ⟨fun _ i h1 h2 => by omega, fun _ => rfl⟩
      | succ u ih =>
        intro k
        show (suE c k && suA c u (k + 1)) = true ↔ _
        rw [Bool.and_eq_true, ih (k+1)]
        constructor
        · rintro ⟨h, h2⟩ i a b
          by_cases e : i = k
          · rw [e]; exact h
          · exact h2 i (by omega) (by omega)
        · intro h; exact ⟨h k (by omega) (by omega), fun i a b => h i (by omega) (by omega)⟩
    rw [a, b]
    constructor
    · intro h i _ hi; rw [← su_eq hok h1 hb (by omega)]; exact h i (by omega)
    · intro h i hi; rw [su_eq hok h1 hb hi]; exact h i (by omega) (by omega)
  · have := hs.mp hb
    rw [decide_eq_false (by omega), Bool.not_true, Bool.false_and, Bool.false_and]
end ZY1
