section XA8
theorem x_topa {G : xG} {l : Launch} {Y : xY} {d : Nat} {Q : xPost} {pc : Nat} {ls : List (Nat × Value)} {st : List Value} {M : xM} {N S a a' : Nat} (h : a = a') (k : xX G l Y d Q pc ls (.ref a' :: st) M N S) : xX G l Y d Q pc ls (.ref a :: st) M N S := by rw [h]; exact k
theorem mod_half {p q : Nat} (h : q ≤ p) (h0 : 0 < q) : 2 * (p % q) ≤ p := by
  have h1 := Nat.mod_lt p h0
  have h2 := Nat.div_add_mod p q
  have h3 : q * 1 ≤ q * (p / q) := Nat.mul_le_mul_left _ (Nat.div_pos h h0)
  omega
/-- how far Euclid's steps have come -/
def eucl (P : Nat) (i p q : Nat) : Prop := i = 0 ∧ p * q ≤ P ∨ 1 ≤ i ∧ q ≤ p ∧ p * q * 2 ^ (i - 1) ≤ P
theorem eucl.step {P i p q : Nat} (h : eucl P i p q) (hq : 0 < q) : eucl P (i + 1) q (p % q) := by
  right
  refine ⟨by omega, Nat.le_of_lt (Nat.mod_lt _ hq), ?_⟩
  rw [Nat.add_sub_cancel]
  rcases h with ⟨rfl, h⟩ | ⟨hi, hqp, h⟩
  · rw [Nat.pow_zero, Nat.mul_one]
    have : q * (p % q) ≤ q * p := Nat.mul_le_mul_left _ (Nat.mod_le _ _)
    rw [Nat.mul_comm q p] at this
    omega
  · obtain ⟨j, rfl⟩ : ∃ j, i = j + 1 := ⟨i - 1, by omega⟩
    rw [Nat.add_sub_cancel] at h
    rw [Nat.pow_succ]
    have h1 := mod_half hqp hq
    calc q * (p % q) * (2 ^ j * 2) = q * (2 * (p % q)) * 2 ^ j := by grind
      _ ≤ q * p * 2 ^ j := Nat.mul_le_mul_right _ (Nat.mul_le_mul_left _ h1)
      _ = p * q * 2 ^ j := by rw [Nat.mul_comm q p]
      _ ≤ P := h
theorem eucl.end {P i p q k : Nat} (h : eucl P i p q) (hP : P < 2 ^ k) (hi : k + 1 ≤ i) : q = 0 := by
  rcases h with ⟨rfl, h⟩ | ⟨h1, hqp, h⟩
  · omega
  · rcases Nat.eq_zero_or_pos q with e | e
    · exact e
    · exfalso
      have h2 : 1 * 2 ^ k ≤ p * q * 2 ^ (i - 1) := Nat.mul_le_mul (Nat.mul_pos (by omega) e) (Nat.pow_le_pow_right (by decide) (by omega))
      omega
theorem gcd_step {p q : Nat} : Nat.gcd q (p % q) = Nat.gcd p q := by rw [Nat.gcd_comm p q, Nat.gcd_rec q p, Nat.gcd_comm]

set_option maxRecDepth 100000 in
set_option maxHeartbeats 4000000 in
theorem j_ofLongs (G : xG) (l : Launch) (d : Nat) (M : xM) (N S : Nat) (a0 b0 : Nat) (ha : a0 < 1000000000000000000) (hb : b0 < 1000000000000000000) : xC G l YX3_ofLongs d [.long (lN a0), .long (lN b0)] M N S (fun r M' N' S' => r = some (.long (lN (Nat.gcd a0 b0))) ∧ M' = M ∧ N' = N ∧ S' = S) := by
  refine xC.of (ls := [(0, .long (lN a0)), (2, .long (lN b0))]) (by decide) (Nat.le_of_ble_eq_true rfl) rfl ?_
  have loop : ∀ (u i a b : Nat), i + u = 1000000 → a < 1000000000000000000 → b < 1000000000000000000 → eucl (a0 * b0) i a b → Nat.gcd a b = Nat.gcd a0 b0 → xX G l YX3_ofLongs d (fun r M' N' S' => r = some (.long (lN (Nat.gcd a0 b0))) ∧ M' = M ∧ N' = N ∧ S' = S) 9 [(0, .long (lN a0)), (2, .long (lN b0)), (4, .long (lN a)), (6, .long (lN b)), (8, .int (nI i))] [] M N S := by
    intro u
    induction u with
    | zero =>
      intro i a b hi h1 h2 he hg
      have hz : b = 0 := he.end (k := 120) (Nat.lt_of_lt_of_le (Nat.mul_lt_mul'' ha hb) (by decide)) (by omega)

      refine x_iload (q := 11) dX3_ofLongs_9 rfl rfl ?_
      refine xn_ldc (q := 13) 1000000 dX3_ofLongs_11 rfl cwX3_22 ?_
      refine xn_icmp_ge (q := 16) 44 dX3_ofLongs_13 (by decide) rfl (by omega) (by omega) (fun hc13 => ?_) (fun hc13 => absurd hc13 (by omega))
      refine x_lload (q := 46) dX3_ofLongs_44 rfl rfl ?_
      exact x_lret rfl dX3_ofLongs_46 ⟨by rw [← hg, hz, Nat.gcd_zero_right], rfl, rfl, rfl⟩

    | succ u ih =>
      intro i a b hi h1 h2 he hg

      refine x_iload (q := 11) dX3_ofLongs_9 rfl rfl ?_
      refine xn_ldc (q := 13) 1000000 dX3_ofLongs_11 rfl cwX3_22 ?_
      refine xn_icmp_ge (q := 16) 44 dX3_ofLongs_13 (by decide) rfl (by omega) (by omega) (fun hc13 => absurd hc13 (by omega)) (fun hc13 => ?_)
      refine x_lload (q := 18) dX3_ofLongs_16 rfl rfl ?_
      refine xn_lconst (q := 19) 0 dX3_ofLongs_18 rfl (by decide) ?_
      refine xn_lcmp_eq (q1 := 20) (q := 23) 44 dX3_ofLongs_19 rfl dX3_ofLongs_20 (by decide) rfl (by omega) (by omega) (fun hc19 => ?_) (fun hc19 => ?_)
      · refine x_lload (q := 46) dX3_ofLongs_44 rfl rfl ?_
        exact x_lret rfl dX3_ofLongs_46 ⟨by rw [← hg, hc19, Nat.gcd_zero_right], rfl, rfl, rfl⟩
      · refine x_lload (q := 25) dX3_ofLongs_23 rfl rfl ?_
        refine x_lload (q := 27) dX3_ofLongs_25 rfl rfl ?_
        refine xn_lrem (q := 28) dX3_ofLongs_27 rfl (by omega) (by omega) (by omega) ?_
        refine x_lstore (q := 30) (ls' := [(0, _), (2, _), (4, _), (6, _), (8, _), (9, _)]) [1, 2, 3, 4, 5, 0] dX3_ofLongs_28 rfl (by decide) rfl ?_
        refine x_lload (q := 32) dX3_ofLongs_30 rfl rfl ?_
        refine x_lstore (q := 34) (ls' := [(0, _), (2, _), (4, _), (6, _), (8, _), (9, _)]) [1, 2, 0, 3, 4, 5] dX3_ofLongs_32 rfl (by decide) rfl ?_
        refine x_lload (q := 36) dX3_ofLongs_34 rfl rfl ?_
        refine x_lstore (q := 38) (ls' := [(0, _), (2, _), (4, _), (6, _), (8, _), (9, _)]) [1, 2, 3, 0, 4, 5] dX3_ofLongs_36 rfl (by decide) rfl ?_
        refine xn_iinc (q := 41) (ls' := [(0, _), (2, _), (4, _), (6, _), (8, _), (9, _)]) [1, 2, 3, 4, 0, 5] 1 dX3_ofLongs_38 rfl rfl (by decide) (by decide) rfl ?_
        refine x_goto 9 dX3_ofLongs_41 (by decide) ?_
        refine x_ls (ls' := [(0, _), (2, _), (4, _), (6, _), (8, _)]) [0, 1, 2, 3, 4] rfl ?_
        have hm := Nat.mod_lt a (show 0 < b by omega)
        exact ih (i + 1) b (a % b) (by omega) h2 (by omega) (he.step (by omega)) (gcd_step.trans hg)

  refine x_lload_n (q := 1) dX3_ofLongs_0 rfl rfl ?_
  refine x_lstore (q := 3) (ls' := [(0, _), (2, _), (4, _)]) [1, 2, 0] dX3_ofLongs_1 rfl (by decide) rfl ?_
  refine x_lload_n (q := 4) dX3_ofLongs_3 rfl rfl ?_
  refine x_lstore (q := 6) (ls' := [(0, _), (2, _), (4, _), (6, _)]) [1, 2, 3, 0] dX3_ofLongs_4 rfl (by decide) rfl ?_
  refine xn_iconst (q := 7) 0 dX3_ofLongs_6 rfl (by decide) ?_
  refine x_istore (q := 9) (ls' := [(0, _), (2, _), (4, _), (6, _), (8, _)]) [1, 2, 3, 4, 0] dX3_ofLongs_7 rfl (by decide) rfl ?_
  exact loop 1000000 0 a0 b0 (by omega) ha hb (.inl ⟨rfl, Nat.le_refl _⟩) rfl

theorem cE_dv {w : Nat} (ad : Nat → Nat) (σ : cZ) (h : w = 9 ∨ w = 10) : cE ad σ w = some (dvE ad w (σ w)) := by
  rcases h with rfl | rfl <;> rfl
theorem dv_nb {w : Nat} (h : w = 9 ∨ w = 10) : ¬ isBg w := by unfold isBg; omega
/-- a divisor's two numbers, in either order -/
def DvP (w p q : Nat) : Prop := p = 148 + 3 * w ∧ q = 149 + 3 * w ∨ p = 149 + 3 * w ∧ q = 148 + 3 * w
abbrev dvK (w : Nat) : List Nat := [w, 147 + 3 * w, 247 + 3 * w, 148 + 3 * w, 248 + 3 * w, 149 + 3 * w, 249 + 3 * w]
def DvOk (σ : cZ) (w : Nat) : Prop := ∃ p q, DvP w p q ∧ (σ w).2.2 1 = p ∧ (σ w).2.2 2 = q
theorem DvP.bg {w p q : Nat} (h : DvP w p q) (hw : w = 9 ∨ w = 10) : isBg p ∧ isBg q ∧ p ≠ q ∧ isBg (147 + 3 * w) ∧ p ≠ 147 + 3 * w ∧ q ≠ 147 + 3 * w := by unfold DvP isBg at *; omega
theorem DvP.swap {w p q : Nat} (h : DvP w p q) : DvP w q p := by unfold DvP at *; omega
theorem nl_le2 {a n : Nat} (h : nl a n) (h2 : n ≤ 2) : dg a 1 * 1000000000 + dg a 0 = a ∧ a < 1000000000000000000 := by
  have h3 : a < B9 ^ 2 := Nat.lt_of_lt_of_le h.1 (B9_mono h2)
  have h4 := val_dg h3
  simp only [val] at h4
  have e : B9 ^ 2 = 1000000000000000000 := by decide
  have e1 : B9 ^ 1 = 1000000000 := by decide
  rw [e] at h3
  rw [e1, Nat.pow_zero] at h4
  omega

set_option maxRecDepth 100000 in
set_option maxHeartbeats 4000000 in
theorem b_areShort (G : xG) (l : Launch) (ad : Nat → Nat) (F : xM) (R : Nat × Nat) (d : Nat) (σ : cZ) (w p q n m : Nat) (hw : w = 9 ∨ w = 10) (hpb : isBg p) (hqb : isBg q) (h1 : (σ w).2.2 1 = p) (h2 : (σ w).2.2 2 = q) (hn : (σ p).1 1 = nI n) (hm : (σ q).1 1 = nI m) (hn2 : n ≤ 2048) (hm2 : m ≤ 2048) : cC G l ad F R YX3_areShort d [.ref (ad w)] σ (fun r σ' => r = some (.int (bI (decide (n ≤ 2 ∧ m ≤ 2)))) ∧ σ' = σ) := by
  refine cC.of (ls := [(0, .ref (ad w))]) (by decide) (Nat.le_of_ble_eq_true rfl) rfl fun M N S hM => ?_

  refine x_aload_n (q := 1) dX3_areShort_0 rfl rfl ?_
  refine c_get (q := 4) (k := w) (f := 1) hM (cE_dv _ _ hw) xclX3 fwX3_16 (by decide) dX3_areShort_1 rfl rfl ?_
  refine x_topa (a' := ad p) (by rw [h1]) ?_
  refine c_getN (q := 7) (k := p) (f := 1) hM (cE_big _ _ hpb) xclX2 fnX3_51 (by decide) dX3_areShort_4 rfl rfl ?_
  refine x_topi (y := nI n) (by exact hn) ?_
  refine xn_iconst (q := 8) 2 dX3_areShort_7 rfl (by decide) ?_
  refine xn_icmp_gt (q := 11) 26 dX3_areShort_8 (by decide) rfl (by omega) (by omega) (fun hc8 => ?_) (fun hc8 => ?_)
  · refine xn_iconst (q := 27) 0 dX3_areShort_26 rfl (by decide) ?_
    exact x_zret rfl (by decide) dX3_areShort_27 (c_ret hM ⟨by rw [decide_eq_false (by omega)]; rfl, rfl⟩)
  · refine x_aload_n (q := 12) dX3_areShort_11 rfl rfl ?_
    refine c_get (q := 15) (k := w) (f := 2) hM (cE_dv _ _ hw) xclX3 fwX3_19 (by decide) dX3_areShort_12 rfl rfl ?_
    refine x_topa (a' := ad q) (by rw [h2]) ?_
    refine c_getN (q := 18) (k := q) (f := 1) hM (cE_big _ _ hqb) xclX2 fnX3_51 (by decide) dX3_areShort_15 rfl rfl ?_
    refine x_topi (y := nI m) (by exact hm) ?_
    refine xn_iconst (q := 19) 2 dX3_areShort_18 rfl (by decide) ?_
    refine xn_icmp_gt (q := 22) 26 dX3_areShort_19 (by decide) rfl (by omega) (by omega) (fun hc19 => ?_) (fun hc19 => ?_)
    · refine xn_iconst (q := 27) 0 dX3_areShort_26 rfl (by decide) ?_
      exact x_zret rfl (by decide) dX3_areShort_27 (c_ret hM ⟨by rw [decide_eq_false (by omega)]; rfl, rfl⟩)
    · refine xn_iconst (q := 23) 1 dX3_areShort_22 rfl (by decide) ?_
      refine x_goto 27 dX3_areShort_23 (by decide) ?_
      exact x_zret rfl (by decide) dX3_areShort_27 (c_ret hM ⟨by rw [decide_eq_true (by omega)]; rfl, rfl⟩)

end XA8
