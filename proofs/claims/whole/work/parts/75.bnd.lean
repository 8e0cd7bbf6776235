section XD1
/-! How great the frame's stiffnesses and a probe's sides are. -/
def nx (a b : Nat) : Nat := a / Nat.gcd a b * b
def s3 (a b e : Nat) : Bool := decide (a = 0) || (decide (b = 0) || (decide (e = 0) || ((Nat.ble (nx 1 a / a) 132 && (Nat.ble (nx (nx 1 a) b / a) 132 && Nat.ble (nx (nx 1 a) b / b) 132)) && (Nat.ble (nx (nx (nx 1 a) b) e / a) 132 && (Nat.ble (nx (nx (nx 1 a) b) e / b) 132 && Nat.ble (nx (nx (nx 1 a) b) e / e) 132)))))
theorem s3_all : ∀ a, a < 13 → ∀ b, b < 13 → ∀ e, e < 13 → s3 a b e = true := by decide +kernel
theorem sc3_le {a b e : Nat} (ha : a < 13) (hb : b < 13) (he : e < 13) (h1 : 1 ≤ a) (h2 : 1 ≤ b) (h3 : 1 ≤ e) : (nx 1 a / a ≤ 132 ∧ nx (nx 1 a) b / a ≤ 132 ∧ nx (nx 1 a) b / b ≤ 132) ∧ nx (nx (nx 1 a) b) e / a ≤ 132 ∧ nx (nx (nx 1 a) b) e / b ≤ 132 ∧ nx (nx (nx 1 a) b) e / e ≤ 132 := by
  have h := s3_all a ha b hb e he
  unfold s3 at h
  rw [decide_eq_false (by omega), decide_eq_false (by omega), decide_eq_false (by omega), Bool.false_or, Bool.false_or, Bool.false_or] at h
  simp only [Bool.and_eq_true, Nat.ble_eq] at h
  exact h
theorem rtP_le {c : mCf} (hok : okL c) {k : Nat} (hk : k < c.m) : rtP c k ≤ 132 := by
  have h0 := (hok.2 0 (by decide)).1
  have h1 := (hok.2 1 (by decide)).1
  have h2 := (hok.2 2 (by decide)).1
  have h3 := sc3_le (a := c.L 0) (b := c.L 1) (e := c.L 2) (by omega) (by omega) (by omega) h0.1 h1.1 h2.1
  have hm := hok.1
  unfold rtP
  rcases (by omega : c.m = 1 ∨ c.m = 2 ∨ c.m = 3) with e | e | e
  · rw [e, show k = 0 by omega]; exact h3.1.1
  · rw [e]
    rcases (by omega : k = 0 ∨ k = 1) with rfl | rfl
    · exact h3.1.2.1
    · exact h3.1.2.2
  · rw [e]
    rcases (by omega : k = 0 ∨ k = 1 ∨ k = 2) with rfl | rfl | rfl
    · exact h3.2.1
    · exact h3.2.2.1
    · exact h3.2.2.2
theorem pwP_le {c : mCf} (hok : okL c) {k : Nat} (hk : k < c.m) (i j : Nat) : pwP c k i j ≤ 2299968 := by
  have hr := rtP_le hok hk
  unfold pwP
  have q1 : (if i % 2 = 0 then rtP c k else 1) ≤ 132 := by split <;> omega
  have q2 : (if j % 2 = 0 then rtP c k else 1) ≤ 132 := by split <;> omega
  exact Nat.mul_le_mul (Nat.mul_le_mul hr q1) q2
/-- what one beam adds to one stiffness -/
theorem pu_one {c : mCf} (hok : okL c) {k i j : Nat} (hk : k < c.m) (hi : i < 4) (hj : j < 4) : (facZ (4 * i + j) * (c.E k : Int) * (pwP c k i j : Int)).natAbs ≤ 331195392 := by
  have hm := hok.1
  have hE := (hok.2 k (by omega)).2
  have hz := facZ_bd (4 * i + j) (by omega)
  have hp := pwP_le hok hk i j
  rw [Int.natAbs_mul, Int.natAbs_mul, Int.natAbs_natCast, Int.natAbs_natCast]
  have q3 : (facZ (4 * i + j)).natAbs ≤ 12 := by omega
  exact Nat.mul_le_mul (Nat.mul_le_mul q3 hE.2) hp
theorem coP_inj {c : mCf} {k i j : Nat} (hk : k < 3) (hi : i < 4) (hj : j < 4) (h : coP c k i = coP c k j) : i = j := by
  have e1 : esP c (2 * k) = 4 + 2 * k ∨ (esP c (2 * k) = 4 + 2 * k - 1 ∧ 0 < k) := by
    unfold esP
    split
    · rename_i z; right; omega
    · left; rfl
  have e2 : esP c (2 * k + 1) = 4 + (2 * k + 1) := by
    unfold esP
    rw [if_neg (fun z => by omega)]
  have c0 : coP c k 0 = k := rfl
  have c1 : coP c k 1 = esP c (2 * k) := rfl
  have c2 : coP c k 2 = k + 1 := rfl
  have c3 : coP c k 3 = esP c (2 * k + 1) := rfl
  rcases (by omega : i = 0 ∨ i = 1 ∨ i = 2 ∨ i = 3) with rfl | rfl | rfl | rfl <;> rcases (by omega : j = 0 ∨ j = 1 ∨ j = 2 ∨ j = 3) with rfl | rfl | rfl | rfl <;> omega
/-- how many of the first k beams touch a slot -/
def adj (c : mCf) (s : Nat) : Nat → Nat
  | 0 => 0
  | k + 1 => adj c s k + (if s = coP c k 0 ∨ s = coP c k 1 ∨ s = coP c k 2 ∨ s = coP c k 3 then 1 else 0)
theorem adj_le (c : mCf) (s : Nat) : ∀ k, adj c s k ≤ k
  | 0 => Nat.le_refl _
  | k + 1 => by
    have := adj_le c s k
    show adj c s k + _ ≤ k + 1
    split <;> omega
/-- a slot's stiffness to another: one share for each beam that touches it -/
theorem pu_step {c : mCf} (hok : okL c) {k : Nat} (hk : k < c.m) {s t : Nat} (hs : s < 10) (ht : t < 10) (h0 : (puS c (16 * k) (s * 10 + t)).natAbs ≤ adj c s k * 331195392) : ∀ r, r ≤ 16 → (puS c (16 * k + r) (s * 10 + t)).natAbs ≤ adj c s k * 331195392 + 331195392 ∧ ((∀ i j, i < 4 → j < 4 → 4 * i + j < r → ¬ (s = coP c k i ∧ t = coP c k j)) → (puS c (16 * k + r) (s * 10 + t)).natAbs ≤ adj c s k * 331195392)
  | 0, _ => ⟨Nat.le_trans h0 (Nat.le_add_right _ _), fun _ => h0⟩
  | r + 1, hr => by
    have ih := pu_step hok hk hs ht h0 r (by omega)
    have hm := hok.1
    obtain ⟨i, j, hi, hj, e⟩ : ∃ i j, i < 4 ∧ j < 4 ∧ r = 4 * i + j := ⟨r / 4, r % 4, by omega, by omega, by omega⟩
    have hci := coP_lt (c := c) (k := k) (by omega) i
    have hcj := coP_lt (c := c) (k := k) (by omega) j
    have h1 := pu_one hok hk hi hj
    have hst : puS c (16 * k + (r + 1)) = addT (puS c (16 * k + r)) (coP c k i * 10 + coP c k j) (facZ (4 * i + j) * (c.E k : Int) * (pwP c k i j : Int)) := by
      rw [show 16 * k + (r + 1) = 16 * k + 4 * i + j + 1 by omega, puS_s hi hj, show 16 * k + 4 * i + j = 16 * k + r by omega]
    rw [hst]
    generalize facZ (4 * i + j) * (c.E k : Int) * (pwP c k i j : Int) = z at h1
    by_cases e2 : s * 10 + t = coP c k i * 10 + coP c k j
    · have es : s = coP c k i := by omega
      have et : t = coP c k j := by omega
      have hno := ih.2 (fun a b ha hb hab hh => by
        have q1 := coP_inj (c := c) (k := k) (by omega) ha hi (hh.1.symm.trans es)
        have q2 := coP_inj (c := c) (k := k) (by omega) hb hj (hh.2.symm.trans et)
        omega)
      refine ⟨?_, fun hall => absurd ⟨es, et⟩ (hall i j hi hj (by omega))⟩
      rw [← e2, addT_s]
      have := Int.natAbs_add_le (puS c (16 * k + r) (s * 10 + t)) z
      omega
    · rw [addT_n e2]
      exact ⟨ih.1, fun hall => ih.2 (fun a b ha hb hab => hall a b ha hb (by omega))⟩
theorem pu_adj {c : mCf} (hok : okL c) {s t : Nat} (hs : s < 10) (ht : t < 10) : ∀ k, k ≤ c.m → (puS c (16 * k) (s * 10 + t)).natAbs ≤ adj c s k * 331195392
  | 0, _ => by show (0 : Int).natAbs ≤ _; simp
  | k + 1, hk => by
    have h0 := pu_adj hok hs ht k (by omega)
    have h1 := pu_step hok (show k < c.m by omega) hs ht h0 16 (Nat.le_refl _)
    rw [show 16 * (k + 1) = 16 * k + 16 by omega]
    show _ ≤ (adj c s k + _) * 331195392
    split
    · have := h1.1; omega
    · rename_i hn
      have := h1.2 (fun i j hi hj _ hh => hn (by
        rcases (by omega : i = 0 ∨ i = 1 ∨ i = 2 ∨ i = 3) with rfl | rfl | rfl | rfl
        · exact .inl hh.1
        · exact .inr (.inl hh.1)
        · exact .inr (.inr (.inl hh.1))
        · exact .inr (.inr (.inr hh.1))))
      omega
theorem puP_le {c : mCf} (hok : okL c) {s t : Nat} (hs : s < 10) (ht : t < 10) : (puP c (s * 10 + t)).natAbs ≤ adj c s c.m * 331195392 := pu_adj hok hs ht c.m (Nat.le_refl _)
end XD1
