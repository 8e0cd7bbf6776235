section XA5
theorem val_pos_cmp {g h : Nat → Nat} : ∀ {m k : Nat}, (∀ i, i < m → g i < B9 ∧ h i < B9) → k < m → (∀ i, k < i → i < m → g i = h i) → g k < h k → val g m < val h m := by
  intro m
  induction m with
  | zero => intro k _ hk; omega
  | succ m ih =>
    intro k hB hk he hlt
    rw [val_succ, val_succ]
    by_cases e : k = m
    · subst e
      have h1 := val_lt (f := g) (n := k) (fun j hj => (hB j (by omega)).1)
      have h2 := Nat.mul_le_mul_right (B9 ^ k) (show g k + 1 ≤ h k by omega)
      rw [Nat.add_mul, Nat.one_mul] at h2
      omega
    · have := ih (k := k) (fun i hi => hB i (by omega)) (by omega) (fun i h1 h2 => he i h1 (by omega)) hlt
      rw [he m (by omega) (by omega)]
      omega

set_option maxRecDepth 100000 in
set_option maxHeartbeats 4000000 in
theorem b_tensOfTop (G : xG) (l : Launch) (ad : Nat → Nat) (F : xM) (R : Nat × Nat) (d : Nat) (σ : cZ) (c m : Nat) (hc : isBg c) (y : Int) (hy : Bg σ c y) (hm : nl y.natAbs m) (hm1 : 1 ≤ m) : cC G l ad F R YX2_tensOfTop (d + 1) [.ref (ad c)] σ (fun r σ' => ∃ t, t ≤ 8 ∧ 100000000 ≤ dg y.natAbs (m - 1) * 10 ^ t ∧ dg y.natAbs (m - 1) * 10 ^ t < 1000000000 ∧ r = some (.long (lN (10 ^ t))) ∧ σ' = σ) := by
  have hy' := hy
  obtain ⟨m', hm', hlen2, g0, g1, gdg⟩ := hy
  obtain rfl := nl_uniq hm hm'
  have htop : 1 ≤ dg y.natAbs (m - 1) := by
    have := nl_top (n := m - 1) (show nl y.natAbs (m - 1 + 1) by rw [show m - 1 + 1 = m by omega]; exact hm)
    omega
  have htb : dg y.natAbs (m - 1) < 1000000000 := dg_lt _ _
  generalize hT : dg y.natAbs (m - 1) = T at *
  refine cC.of (ls := [(0, .ref (ad c))]) (by decide) (Nat.le_of_ble_eq_true rfl) rfl fun M N S hM => ?_
  have hll := hM.2.2.2.1 c hc
  have loop : ∀ (u t : Nat) (M : xM) (N S : Nat), t + u = 8 → T * 10 ^ t < 1000000000 → cA G ad F R σ M N S → xX G l YX2_tensOfTop (d + 1) (cQ G ad F R (fun r σ' => ∃ t, t ≤ 8 ∧ 100000000 ≤ T * 10 ^ t ∧ T * 10 ^ t < 1000000000 ∧ r = some (.long (lN (10 ^ t))) ∧ σ' = σ)) 16 [(0, .ref (ad c)), (1, .long (lN T)), (3, .long (lN (10 ^ t))), (5, .int (nI t))] [] M N S := by
    intro u
    induction u with
    | zero =>
      intro t M N S ht hb hM
      obtain rfl : t = 8 := by omega

      refine x_iload (q := 18) dX2_tensOfTop_16 rfl rfl ?_
      refine xn_bipush (q := 20) 8 dX2_tensOfTop_18 rfl (by decide) ?_
      refine xn_icmp_ge (q := 23) 49 dX2_tensOfTop_20 (by decide) rfl (by omega) (by omega) (fun hc20 => ?_) (fun hc20 => absurd hc20 (by omega))
      refine x_lload_n (q := 50) dX2_tensOfTop_49 rfl rfl ?_
      exact x_lret rfl dX2_tensOfTop_50 (c_ret hM ⟨8, by decide, by omega, hb, rfl, rfl⟩)

    | succ u ih =>
      intro t M N S ht hb hM
      have hp : 10 ^ t ≤ 10 ^ 8 := Nat.pow_le_pow_right (by decide) (by omega)
      have hp1 : 10 ^ (t + 1) = 10 ^ t * 10 := Nat.pow_succ ..
      have ha : T * 10 ^ t * 10 = T * 10 ^ (t + 1) := by rw [hp1, Nat.mul_assoc]

      refine x_iload (q := 18) dX2_tensOfTop_16 rfl rfl ?_
      refine xn_bipush (q := 20) 8 dX2_tensOfTop_18 rfl (by decide) ?_
      refine xn_icmp_ge (q := 23) 49 dX2_tensOfTop_20 (by decide) rfl (by omega) (by omega) (fun hc20 => absurd hc20 (by omega)) (fun hc20 => ?_)
      refine x_lload_n (q := 24) dX2_tensOfTop_23 rfl rfl ?_
      refine x_lload_n (q := 25) dX2_tensOfTop_24 rfl rfl ?_
      refine xn_lmul (q := 26) dX2_tensOfTop_25 rfl ?_
      refine xn_ldc2 (q := 29) 10 dX2_tensOfTop_26 rfl cwX2_74 ?_
      refine xn_lmul (q := 30) dX2_tensOfTop_29 rfl ?_
      refine xn_ldc2 (q := 33) 1000000000 dX2_tensOfTop_30 rfl cwX2_21 ?_
      refine xn_lcmp_ge (q1 := 34) (q := 37) 49 dX2_tensOfTop_33 rfl dX2_tensOfTop_34 (by decide) rfl (by omega) (by omega) (fun hc33 => ?_) (fun hc33 => ?_)
      · refine x_lload_n (q := 50) dX2_tensOfTop_49 rfl rfl ?_
        exact x_lret rfl dX2_tensOfTop_50 (c_ret hM ⟨t, by omega, by omega, hb, rfl, rfl⟩)
      · refine x_lload_n (q := 38) dX2_tensOfTop_37 rfl rfl ?_
        refine xn_ldc2 (q := 41) 10 dX2_tensOfTop_38 rfl cwX2_74 ?_
        refine xn_lmul (q := 42) dX2_tensOfTop_41 rfl ?_
        refine x_lstore_n (q := 43) (ls' := [(0, _), (1, _), (3, _), (5, _)]) [1, 2, 0, 3] dX2_tensOfTop_42 rfl (by decide) rfl ?_
        refine xn_iinc (q := 46) (ls' := [(0, _), (1, _), (3, _), (5, _)]) [1, 2, 3, 0] 1 dX2_tensOfTop_43 rfl rfl (by decide) (by decide) rfl ?_
        refine x_goto 16 dX2_tensOfTop_46 (by decide) ?_
        rw [← hp1]
        exact ih (t + 1) M N S (by omega) (by omega) hM

  refine x_aload_n (q := 1) dX2_tensOfTop_0 rfl rfl ?_
  refine x_aload_n (q := 2) dX2_tensOfTop_1 rfl rfl ?_
  refine c_get (q := 5) (k := c) (f := 1) hM (cE_big _ _ hc) xclX2 fwX2_13 (by decide) dX2_tensOfTop_2 rfl rfl ?_
  refine x_topi (y := nI m) (by exact g1) ?_
  refine xn_iconst (q := 6) 1 dX2_tensOfTop_5 rfl (by decide) ?_
  refine xn_isub (q := 7) dX2_tensOfTop_6 rfl (by omega) ?_
  refine c_call (q := 10) (k := c) (As := [_]) hM (cE_big _ _ hc) imX2_limbAt ivX2_limbAt ilX2_limbAt mwX2_17 xciX2 dX2_tensOfTop_7 rfl rfl rfl (Nat.le_of_ble_eq_true rfl) ?_
  refine (b_limbAt G l ad F R d σ c (m - 1) hc y hy' (by omega)).mono (fun x9 σ9' hp => ?_)
  obtain ⟨rfl, e9⟩ := hp
  intro M N S hM
  rw [e9] at hM; clear e9 σ9'
  show xX G l _ (d + 1) _ _ _ _ M N S
  refine x_lstore_n (q := 11) (ls' := [(0, _), (1, _)]) [1, 0] dX2_tensOfTop_10 rfl (by decide) rfl ?_
  refine xn_lconst (q := 12) 1 dX2_tensOfTop_11 rfl (by decide) ?_
  refine x_lstore_n (q := 13) (ls' := [(0, _), (1, _), (3, _)]) [1, 2, 0] dX2_tensOfTop_12 rfl (by decide) rfl ?_
  refine xn_iconst (q := 14) 0 dX2_tensOfTop_13 rfl (by decide) ?_
  refine x_istore (q := 16) (ls' := [(0, _), (1, _), (3, _), (5, _)]) [1, 2, 3, 0] dX2_tensOfTop_14 rfl (by decide) rfl ?_
  rw [hT]
  exact loop 8 0 M N S (by decide) (by rw [Nat.pow_zero, Nat.mul_one]; exact htb) hM

def frontV (f : Nat → Nat) (i a t : Nat) : Nat := (a * 1000000000 + f i) * 10 ^ t + if 0 < i ∧ 0 < t then f (i - 1) / (1000000000 / 10 ^ t) else 0
theorem frontV_lt {f : Nat → Nat} {i a t : Nat} (hf : f i < 1000000000) (hg : f (i - 1) < 1000000000) (ht : t ≤ 8) : frontV f i a t < (a + 1) * 1000000000 * 10 ^ t + 1000000000 := by
  unfold frontV
  have h1 : (a * 1000000000 + f i) * 10 ^ t ≤ (a + 1) * 1000000000 * 10 ^ t := Nat.mul_le_mul_right _ (by omega)
  split
  · have := Nat.div_le_self (f (i - 1)) (1000000000 / 10 ^ t)
    omega
  · omega
theorem ten_dvd {t : Nat} (h : t ≤ 8) : 0 < 1000000000 / 10 ^ t ∧ 1000000000 / 10 ^ t * 10 ^ t = 1000000000 := by
  have h2 : ∀ t, t < 9 → 0 < 1000000000 / 10 ^ t ∧ 1000000000 / 10 ^ t * 10 ^ t = 1000000000 := by decide
  exact h2 t (by omega)
/-- the leading digits are the number's, times ten to the t, over the place's power -/
theorem frontV_eq {f : Nat → Nat} {i a t : Nat} (hf : ∀ j, j < i + 1 → f j < B9) (ht : t ≤ 8) (h0 : 0 < i ∨ i = 0) : frontV f i a t = (val f (i + 1) + a * B9 ^ (i + 1)) * 10 ^ t / B9 ^ i := by
  unfold frontV
  obtain ⟨hq, hqt⟩ := ten_dvd ht
  generalize hQ : 1000000000 / 10 ^ t = q at *
  have hP := B9_pos i
  have e1 : val f (i + 1) + a * B9 ^ (i + 1) = val f i + (a * B9 + f i) * B9 ^ i := by
    rw [val_succ, B9_succ, Nat.add_mul, Nat.mul_assoc, Nat.mul_comm B9 (B9 ^ i)]
    omega
  have e3 : (val f i + (a * B9 + f i) * B9 ^ i) * 10 ^ t = val f i * 10 ^ t + (a * B9 + f i) * 10 ^ t * B9 ^ i := by rw [Nat.add_mul, Nat.mul_right_comm]
  rw [e1, e3, Nat.add_mul_div_right _ _ hP, Nat.add_comm (val f i * 10 ^ t / B9 ^ i)]
  congr 1
  cases i with
  | zero => simp [val]
  | succ i =>
    rw [val_succ, B9_succ]
    have hp := B9_pos i
    have hl := val_lt (f := f) (n := i) (fun j hj => hf j (by omega))
    by_cases h : 0 < t
    · rw [if_pos ⟨by omega, h⟩, Nat.add_sub_cancel]
      have e2 : B9 ^ i * B9 = B9 ^ i * q * 10 ^ t := by rw [Nat.mul_assoc, hqt]
      rw [e2, Nat.mul_div_mul_right _ _ (Nat.pow_pos (by decide)), ← Nat.div_div_eq_div_mul, Nat.add_mul_div_right _ _ hp, Nat.div_eq_of_lt hl, Nat.zero_add]
    · obtain rfl : t = 0 := by omega
      rw [if_neg (by omega), Nat.pow_zero, Nat.mul_one, ← B9_succ]
      symm
      apply Nat.div_eq_of_lt
      exact val_lt (f := f) (n := i + 1) (fun j hj => hf j (by omega))

set_option maxRecDepth 100000 in
set_option maxHeartbeats 4000000 in
theorem b_front (G : xG) (l : Launch) (ad : Nat → Nat) (F : xM) (R : Nat × Nat) (d : Nat) (σ : cZ) (b : Nat) (hb : isBg b) (f : Nat → Nat) (i a t : Nat) (hi : i < (σ b).2.2 1) (ht : t ≤ 8) (ha : a * 10 ^ t < 4000000000) (hl : ∀ j, j ≤ i → (σ (b + 100)).1 j = nI (f j) ∧ f j < B9) : cC G l ad F R YX2_front d [.ref (ad b), .int (nI i), .long (lN a), .long (lN (10 ^ t))] σ (fun r σ' => r = some (.long (lN (frontV f i a t))) ∧ σ' = σ) := by
  refine cC.of (ls := [(0, .ref (ad b)), (1, .int (nI i)), (2, .long (lN a)), (4, .long (lN (10 ^ t)))]) (by decide) (Nat.le_of_ble_eq_true rfl) rfl fun M N S hM => ?_
  have hll := hM.2.2.2.1 b hb
  have hp : 10 ^ t ≤ 10 ^ 8 := Nat.pow_le_pow_right (by decide) ht
  have hp0 : 0 < 10 ^ t := Nat.pow_pos (by decide)
  have hfi : f i < 1000000000 := (hl i (Nat.le_refl _)).2
  have hfj : f (i - 1) < 1000000000 := (hl (i - 1) (by omega)).2
  obtain ⟨hq, hqt⟩ := ten_dvd ht
  have hql := Nat.div_le_self 1000000000 (10 ^ t)
  have ht1 : (10 ^ t ≤ 1) ↔ t = 0 := by
    have h2 : ∀ t, t < 9 → (10 ^ t ≤ 1 ↔ t = 0) := by decide
    exact h2 t (by omega)

  refine x_lload_n (q := 1) dX2_front_0 rfl rfl ?_
  refine xn_ldc2 (q := 4) 1000000000 dX2_front_1 rfl cwX2_21 ?_
  refine xn_lmul (q := 5) dX2_front_4 rfl ?_
  refine x_aload_n (q := 6) dX2_front_5 rfl rfl ?_
  refine c_get (q := 9) (k := b) (f := 2) hM (cE_big _ _ hb) xclX2 fwX2_9 (by decide) dX2_front_6 rfl rfl ?_
  refine x_iload_n (q := 10) dX2_front_9 rfl rfl ?_
  refine c_limb (q := 11) hM hb dX2_front_10 rfl (by omega) ?_
  refine x_topi (y := nI (f i)) (by exact (hl i (Nat.le_refl _)).1) ?_
  refine xn_i2l (q := 12) dX2_front_11 rfl (by omega) ?_
  refine xn_ladd (q := 13) dX2_front_12 rfl ?_
  refine x_lload (q := 15) dX2_front_13 rfl rfl ?_
  refine xn_lmul (q := 16) dX2_front_15 rfl ?_
  refine x_lstore (q := 18) (ls' := [(0, _), (1, _), (2, _), (4, _), (6, _)]) [1, 2, 3, 4, 0] dX2_front_16 rfl (by decide) rfl ?_
  refine x_iload_n (q := 19) dX2_front_18 rfl rfl ?_
  refine xn_if_le (q := 22) 51 dX2_front_19 (by decide) rfl (by omega) (fun hc19 => ?_) (fun hc19 => ?_)
  · refine x_lload (q := 53) dX2_front_51 rfl rfl ?_
    exact x_lret rfl dX2_front_53 (c_ret hM ⟨by unfold frontV; rw [if_neg (fun h => by omega)]; rfl, rfl⟩)
  · refine x_lload (q := 24) dX2_front_22 rfl rfl ?_
    refine xn_lconst (q := 25) 1 dX2_front_24 rfl (by decide) ?_
    refine xn_lcmp_le (q1 := 26) (q := 29) 51 dX2_front_25 rfl dX2_front_26 (by decide) rfl (by omega) (by omega) (fun hc25 => ?_) (fun hc25 => ?_)
    · refine x_lload (q := 53) dX2_front_51 rfl rfl ?_
      exact x_lret rfl dX2_front_53 (c_ret hM ⟨by unfold frontV; rw [if_neg (fun h => by have := ht1.mp (by omega); omega)]; rfl, rfl⟩)
    · refine x_lload (q := 31) dX2_front_29 rfl rfl ?_
      refine x_aload_n (q := 32) dX2_front_31 rfl rfl ?_
      refine c_get (q := 35) (k := b) (f := 2) hM (cE_big _ _ hb) xclX2 fwX2_9 (by decide) dX2_front_32 rfl rfl ?_
      refine x_iload_n (q := 36) dX2_front_35 rfl rfl ?_
      refine xn_iconst (q := 37) 1 dX2_front_36 rfl (by decide) ?_
      refine xn_isub (q := 38) dX2_front_37 rfl (by omega) ?_
      refine c_limb (q := 39) hM hb dX2_front_38 rfl (by omega) ?_
      refine x_topi (y := nI (f (i - 1))) (by exact (hl (i - 1) (by omega)).1) ?_
      refine xn_i2l (q := 40) dX2_front_39 rfl (by omega) ?_
      refine xn_ldc2 (q := 43) 1000000000 dX2_front_40 rfl cwX2_21 ?_
      refine x_lload (q := 45) dX2_front_43 rfl rfl ?_
      refine xn_ldiv (q := 46) dX2_front_45 rfl (by omega) hp0 (by omega) ?_
      refine xn_ldiv (q := 47) dX2_front_46 rfl (by omega) hq (by omega) ?_
      refine xn_ladd (q := 48) dX2_front_47 rfl ?_
      refine x_goto 53 dX2_front_48 (by decide) ?_
      exact x_lret rfl dX2_front_53 (c_ret hM ⟨by unfold frontV; rw [if_pos ⟨by omega, Nat.pos_of_ne_zero (fun h => by have := ht1.mpr h; omega)⟩], rfl⟩)

set_option maxRecDepth 100000 in
set_option maxHeartbeats 4000000 in
theorem b_reaches (G : xG) (l : Launch) (ad : Nat → Nat) (F : xM) (R : Nat × Nat) (d : Nat) (σ : cZ) (b c : Nat) (hb : isBg b) (hc : isBg c) (y : Int) (hy : Bg σ c y) (m s : Nat) (hm : nl y.natAbs m) (f : Nat → Nat) (hs : s + m ≤ (σ b).2.2 1) (hl : ∀ j, j < s + m → (σ (b + 100)).1 j = nI (f j) ∧ f j < B9) : cC G l ad F R YX2_reaches d [.ref (ad b), .ref (ad c), .int (nI s)] σ (fun r σ' => r = some (.int (bI (decide (y.natAbs ≤ val (fun i => f (s + i)) m)))) ∧ σ' = σ) := by
  obtain ⟨m', hm', hlen2, g0, g1, gdg⟩ := hy
  obtain rfl := nl_uniq hm hm'
  refine cC.of (ls := [(0, .ref (ad b)), (1, .ref (ad c)), (2, .int (nI s))]) (by decide) (Nat.le_of_ble_eq_true rfl) rfl fun M N S hM => ?_
  have hll := hM.2.2.2.1 b hb
  have hl2 := hM.2.2.2.1 c hc
  have hyv : val (dg y.natAbs) m = y.natAbs := val_dg hm.1
  have hB : ∀ i, i < m → dg y.natAbs i < B9 ∧ f (s + i) < B9 := fun i hi => ⟨dg_lt _ _, (hl (s + i) (by omega)).2⟩
  have loop : ∀ (k : Nat) (M : xM) (N S : Nat), k ≤ m → (∀ i, k ≤ i → i < m → dg y.natAbs i = f (s + i)) → cA G ad F R σ M N S → xX G l YX2_reaches d (cQ G ad F R (fun r σ' => r = some (.int (bI (decide (y.natAbs ≤ val (fun i => f (s + i)) m)))) ∧ σ' = σ)) 7 [(0, .ref (ad b)), (1, .ref (ad c)), (2, .int (nI s)), (3, .int (iI ((k : Int) - 1)))] [] M N S := by
    intro k
    induction k with
    | zero =>
      intro M N S hk heq hM

      refine x_iload_n (q := 8) dX2_reaches_7 rfl rfl ?_
      refine xi_if_lt (q := 11) 50 dX2_reaches_8 (by decide) rfl rfl (by omega) (by omega) (fun hc8 => ?_) (fun hc8 => absurd hc8 (by omega))
      refine xn_iconst (q := 51) 1 dX2_reaches_50 rfl (by decide) ?_
      exact x_zret rfl (by decide) dX2_reaches_51 (c_ret hM ⟨by rw [decide_eq_true (by rw [← hyv]; exact Nat.le_of_eq (val_congr (fun i hi => heq i (Nat.zero_le _) hi)))]; rfl, rfl⟩)

    | succ k ih =>
      intro M N S hk heq hM
      have h1 : f (s + k) < 1000000000 := (hB k (by omega)).2
      have h2 : dg y.natAbs k < 1000000000 := (hB k (by omega)).1
      have l1 := (hl (s + k) (by omega)).1
      have l2 := gdg k (by omega)

      refine x_iload_n (q := 8) dX2_reaches_7 rfl rfl ?_
      refine xi_if_lt (q := 11) 50 dX2_reaches_8 (by decide) rfl rfl (by omega) (by omega) (fun hc8 => absurd hc8 (by omega)) (fun hc8 => ?_)
      refine x_aload_n (q := 12) dX2_reaches_11 rfl rfl ?_
      refine c_get (q := 15) (k := b) (f := 2) hM (cE_big _ _ hb) xclX2 fwX2_9 (by decide) dX2_reaches_12 rfl rfl ?_
      refine x_iload_n (q := 16) dX2_reaches_15 rfl rfl ?_
      refine x_iload_n (q := 17) dX2_reaches_16 rfl rfl ?_
      refine xi_iadd (q := 18) dX2_reaches_17 rfl (nI_i _) rfl ?_
      refine x_topi (y := nI (s + k)) (by rw [nI_i]; congr 1; omega) ?_
      refine c_limb (q := 19) hM hb dX2_reaches_18 rfl (by omega) ?_
      refine x_topi (y := nI (f (s + k))) (by exact l1) ?_
      refine x_aload_n (q := 20) dX2_reaches_19 rfl rfl ?_
      refine c_get (q := 23) (k := c) (f := 2) hM (cE_big _ _ hc) xclX2 fwX2_9 (by decide) dX2_reaches_20 rfl rfl ?_
      refine x_iload_n (q := 24) dX2_reaches_23 rfl rfl ?_
      refine x_topi (y := nI k) (by rw [nI_i]; congr 1; omega) ?_
      refine c_limb (q := 25) hM hc dX2_reaches_24 rfl (by omega) ?_
      refine x_topi (y := nI (dg y.natAbs k)) (by exact l2) ?_
      refine xi_isub (q := 26) dX2_reaches_25 rfl (nI_i _) (nI_i _) ?_
      refine x_istore (q := 28) (ls' := [(0, _), (1, _), (2, _), (3, _), (4, _)]) [1, 2, 3, 4, 0] dX2_reaches_26 rfl (by decide) rfl ?_
      refine x_iload (q := 30) dX2_reaches_28 rfl rfl ?_
      refine xi_if_eq (q := 33) 44 dX2_reaches_30 (by decide) rfl rfl (by omega) (by omega) (fun hc30 => ?_) (fun hc30 => ?_)
      · refine x_iinc (q := 47) (ls' := [(0, _), (1, _), (2, _), (3, _), (4, _)]) [1, 2, 3, 0, 4] (-1) dX2_reaches_44 rfl rfl (by decide) (by decide) rfl ?_
        refine x_goto 7 dX2_reaches_47 (by decide) ?_
        refine x_ls (ls' := [(0, _), (1, _), (2, _), (3, _)]) [0, 1, 2, 3] rfl ?_
        have e9 : iI (((k + 1 : Nat) : Int) - 1) + -1 = iI ((k : Int) - 1) := by rw [show iI (((k + 1 : Nat) : Int) - 1) + -1 = iI (((k + 1 : Nat) : Int) - 1) + iI (-1) from rfl, ← Int32.ofInt_add]; congr 1; omega
        rw [e9]
        exact ih M N S (by omega) (fun i h1 h2 => by
          by_cases e : i = k
          · rw [e]; omega
          · exact heq i (by omega) h2) hM
      · refine x_iload (q := 35) dX2_reaches_33 rfl rfl ?_
        refine xi_if_le (q := 38) 42 dX2_reaches_35 (by decide) rfl rfl (by omega) (by omega) (fun hc35 => ?_) (fun hc35 => ?_)
        · refine xn_iconst (q := 43) 0 dX2_reaches_42 rfl (by decide) ?_
          exact x_zret rfl (by decide) dX2_reaches_43 (c_ret hM ⟨by rw [decide_eq_false (by rw [← hyv]; exact Nat.not_le.mpr (val_pos_cmp (k := k) (fun i hi => ⟨(hB i hi).2, (hB i hi).1⟩) (by omega) (fun i h1 h2 => (heq i (by omega) h2).symm) (by show f (s + k) < dg y.natAbs k; omega)))]; rfl, rfl⟩)
        · refine xn_iconst (q := 39) 1 dX2_reaches_38 rfl (by decide) ?_
          refine x_goto 43 dX2_reaches_39 (by decide) ?_
          exact x_zret rfl (by decide) dX2_reaches_43 (c_ret hM ⟨by rw [decide_eq_true (by rw [← hyv]; exact Nat.le_of_lt (val_pos_cmp (k := k) hB (by omega) (fun i h1 h2 => heq i (by omega) h2) (by show dg y.natAbs k < f (s + k); omega)))]; rfl, rfl⟩)

  refine x_aload_n (q := 1) dX2_reaches_0 rfl rfl ?_
  refine c_get (q := 4) (k := c) (f := 1) hM (cE_big _ _ hc) xclX2 fwX2_13 (by decide) dX2_reaches_1 rfl rfl ?_
  refine x_topi (y := iI (m : Int)) (by rw [g1, nI_i]) ?_
  refine xn_iconst (q := 5) 1 dX2_reaches_4 rfl (by decide) ?_
  refine xi_isub (q := 6) dX2_reaches_5 rfl rfl (nI_i _) ?_
  refine x_istore_n (q := 7) (ls' := [(0, _), (1, _), (2, _), (3, _)]) [1, 2, 3, 0] dX2_reaches_6 rfl (by decide) rfl ?_
  exact loop m M N S (Nat.le_refl _) (fun i h1 h2 => absurd h2 (by omega)) hM

end XA5
