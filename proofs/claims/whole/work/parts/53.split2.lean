section XA6
set_option maxRecDepth 100000 in
set_option maxHeartbeats 4000000 in
theorem b_takeAway (G : xG) (l : Launch) (ad : Nat → Nat) (F : xM) (R : Nat × Nat) (d : Nat) (σ : cZ) (b c : Nat) (hb : isBg b) (hc : isBg c) (hbc : b ≠ c) (y : Int) (hy : Bg σ c y) (m s o : Nat) (hm : nl y.natAbs m) (f : Nat → Nat) (hs : s + m < (σ b).2.2 1) (hl : ∀ j, j ≤ s + m → (σ (b + 100)).1 j = nI (f j) ∧ f j < B9) (ho : o ≤ 1000000000) (hle : o * y.natAbs * B9 ^ s ≤ val f (s + m + 1)) : cC G l ad F R YX2_takeAway (d + 1) [.ref (ad b), .ref (ad c), .long (lN o), .int (nI s)] σ (fun r σ' => r = none ∧ kp [b + 100] σ σ' ∧ (∀ j, s + m < j → (σ' (b + 100)).1 j = (σ (b + 100)).1 j) ∧ ∃ g : Nat → Nat, (∀ j, j ≤ s + m → (σ' (b + 100)).1 j = nI (g j) ∧ g j < B9) ∧ val g (s + m + 1) + o * y.natAbs * B9 ^ s = val f (s + m + 1)) := by
  have hy' := hy
  obtain ⟨m', hm', hlen2, g0, g1, gdg⟩ := hy
  obtain rfl := nl_uniq hm hm'
  obtain ⟨x1, x2, x3, x4⟩ := bg_ne hb hc hbc
  have hn1 : c ∉ [b + 100] := fun h => x1 (List.mem_cons_of_mem _ h)
  have hn2 : c + 100 ∉ [b + 100] := fun h => x2 (List.mem_cons_of_mem _ h)
  refine cC.of (ls := [(0, .ref (ad b)), (1, .ref (ad c)), (2, .long (lN o)), (4, .int (nI s))]) (by decide) (Nat.le_of_ble_eq_true rfl) rfl fun M N S hM => ?_
  have loop : ∀ (u i : Nat) (cy : Int) (σ1 : cZ) (g : Nat → Nat) (M : xM) (N S : Nat), i + u = m + 1 → -1000000001 ≤ cy → cy ≤ 0 → kp [b + 100] σ σ1 → (∀ j, s + m < j → (σ1 (b + 100)).1 j = (σ (b + 100)).1 j) → (∀ j, j ≤ s + m → (σ1 (b + 100)).1 j = nI (g j) ∧ g j < B9) → (∀ j, s + i ≤ j → g j = f j) → (val g (s + i) : Int) + cy * ((B9 ^ s * B9 ^ i : Nat) : Int) = (val f (s + i) : Int) + ((val (dg y.natAbs) i * B9 ^ s : Nat) : Int) * (-(o : Int)) → cA G ad F R σ1 M N S → xX G l YX2_takeAway (d + 1) (cQ G ad F R (fun r σ' => r = none ∧ kp [b + 100] σ σ' ∧ (∀ j, s + m < j → (σ' (b + 100)).1 j = (σ (b + 100)).1 j) ∧ ∃ g : Nat → Nat, (∀ j, j ≤ s + m → (σ' (b + 100)).1 j = nI (g j) ∧ g j < B9) ∧ val g (s + m + 1) + o * y.natAbs * B9 ^ s = val f (s + m + 1))) 6 [(0, .ref (ad b)), (1, .ref (ad c)), (2, .long (lN o)), (4, .int (nI s)), (5, .long (iL cy)), (7, .int (nI i))] [] M N S := by
    intro u
    induction u with
    | zero =>
      intro i cy σ1 g M N S hi c1 c2 k1 k2 k3 k4 hinv hM
      have hl2 := hM.2.2.2.1 c hc
      have ec : σ1 c = σ c := k1 c hn1
      rw [ec] at hl2
      obtain rfl : i = m + 1 := by omega
      rw [val_bd hm (by omega)] at hinv
      have hvl := val_lt (f := g) (n := s + (m + 1)) (fun j hj => (k3 j (by omega)).2)
      have hvf := val_lt (f := f) (n := s + (m + 1)) (fun j hj => (hl j (by omega)).2)
      rw [Nat.pow_add] at hvl hvf
      have hle2 : ((o * y.natAbs * B9 ^ s : Nat) : Int) ≤ ((val f (s + (m + 1)) : Nat) : Int) := Int.ofNat_le.mpr hle
      have hPp : 0 < B9 ^ s * B9 ^ (m + 1) := Nat.mul_pos (B9_pos _) (B9_pos _)
      generalize hP : B9 ^ s * B9 ^ (m + 1) = P at *
      have e1 : ((y.natAbs * B9 ^ s : Nat) : Int) * (-(o : Int)) = -((o * y.natAbs * B9 ^ s : Nat) : Int) := by
        rw [Int.mul_neg, ← Int.natCast_mul]
        congr 2
        rw [Nat.mul_comm, Nat.mul_assoc]
      rw [e1] at hinv
      have hcy : cy = 0 := by
        rcases Int.lt_or_le cy 0 with h | h
        · have := Int.mul_le_mul_of_nonneg_right (show cy ≤ -1 by omega) (show (0 : Int) ≤ (P : Int) by omega)
          omega
        · omega
      rw [hcy] at hinv

      refine x_iload (q := 8) dX2_takeAway_6 rfl rfl ?_
      refine x_aload_n (q := 9) dX2_takeAway_8 rfl rfl ?_
      refine c_get (q := 12) (k := c) (f := 1) hM (cE_big _ _ hc) xclX2 fwX2_13 (by decide) dX2_takeAway_9 rfl rfl ?_
      refine x_topi (y := nI m) (by rw [ec, g1]) ?_
      refine xn_icmp_gt (q := 15) 76 dX2_takeAway_12 (by decide) rfl (by omega) (by omega) (fun hc12 => ?_) (fun hc12 => absurd hc12 (by omega))
      exact x_vret rfl dX2_takeAway_76 (c_ret hM ⟨rfl, k1, k2, g, k3, by rw [show s + m + 1 = s + (m + 1) by omega]; omega⟩)

    | succ u ih =>
      intro i cy σ1 g M N S hi c1 c2 k1 k2 k3 k4 hinv hM
      have hl2 := hM.2.2.2.1 c hc
      have hll := hM.2.2.2.1 b hb
      have ec : σ1 c = σ c := k1 c hn1
      have eb : σ1 b = σ b := k1 b (by simp)
      rw [ec] at hl2
      rw [eb] at hll
      have hyc : Bg σ1 c y := k1.bg hn1 hn2 hy'
      have hd1 : g (s + i) < 1000000000 := (k3 (s + i) (by omega)).2
      have hd2 : dg y.natAbs i < 1000000000 := dg_lt _ _
      have m1 : (dg y.natAbs i : Int) * (o : Int) ≤ 999999999 * 1000000000 := by
        have := Nat.mul_le_mul (show dg y.natAbs i ≤ 999999999 by omega) ho
        have := Int.ofNat_le.mpr this
        rw [Int.natCast_mul] at this
        exact this
      have m2 : 0 ≤ (dg y.natAbs i : Int) * (o : Int) := Int.mul_nonneg (by omega) (by omega)

      refine x_iload (q := 8) dX2_takeAway_6 rfl rfl ?_
      refine x_aload_n (q := 9) dX2_takeAway_8 rfl rfl ?_
      refine c_get (q := 12) (k := c) (f := 1) hM (cE_big _ _ hc) xclX2 fwX2_13 (by decide) dX2_takeAway_9 rfl rfl ?_
      refine x_topi (y := nI m) (by rw [ec, g1]) ?_
      refine xn_icmp_gt (q := 15) 76 dX2_takeAway_12 (by decide) rfl (by omega) (by omega) (fun hc12 => absurd hc12 (by omega)) (fun hc12 => ?_)
      refine x_aload_n (q := 16) dX2_takeAway_15 rfl rfl ?_
      refine c_get (q := 19) (k := b) (f := 2) hM (cE_big _ _ hb) xclX2 fwX2_9 (by decide) dX2_takeAway_16 rfl rfl ?_
      refine x_iload (q := 21) dX2_takeAway_19 rfl rfl ?_
      refine x_iload (q := 23) dX2_takeAway_21 rfl rfl ?_
      refine xn_iadd (q := 24) dX2_takeAway_23 rfl ?_
      refine c_limb (q := 25) hM hb dX2_takeAway_24 rfl (by rw [eb]; omega) ?_
      refine x_topi (y := nI (g (s + i))) (by exact (k3 (s + i) (by omega)).1) ?_
      refine xn_i2l (q := 26) dX2_takeAway_25 rfl (by omega) ?_
      refine x_aload_n (q := 27) dX2_takeAway_26 rfl rfl ?_
      refine x_iload (q := 29) dX2_takeAway_27 rfl rfl ?_
      refine c_call (q := 32) (k := c) (As := [_]) hM (cE_big _ _ hc) imX2_limbAt ivX2_limbAt ilX2_limbAt mwX2_17 xciX2 dX2_takeAway_29 rfl rfl rfl (Nat.le_of_ble_eq_true rfl) ?_
      refine (b_limbAt G l ad F R d σ1 c i hc y hyc (by omega)).mono (fun x9 σ9' hp => ?_)
      obtain ⟨rfl, e9⟩ := hp
      intro M N S hM
      rw [e9] at hM; clear e9 σ9'
      show xX G l _ (d + 1) _ _ _ _ M N S
      refine x_lload_n (q := 33) dX2_takeAway_32 rfl rfl ?_
      refine xn_lmul (q := 34) dX2_takeAway_33 rfl ?_
      refine x_topl (y := iL ((dg y.natAbs i : Int) * (o : Int))) (by rw [lN_i', Int.natCast_mul]) ?_
      refine xi_lsub (q := 35) dX2_takeAway_34 rfl (lN_i' _) rfl ?_
      refine x_lload (q := 37) dX2_takeAway_35 rfl rfl ?_
      refine xi_ladd (q := 38) dX2_takeAway_37 rfl rfl rfl ?_
      refine x_lstore (q := 40) (ls' := [(0, _), (1, _), (2, _), (4, _), (5, _), (7, _), (8, _)]) [1, 2, 3, 4, 5, 6, 0] dX2_takeAway_38 rfl (by decide) rfl ?_
      refine x_lload (q := 42) dX2_takeAway_40 rfl rfl ?_
      refine xn_ldc2 (q := 45) 1000000000 dX2_takeAway_42 rfl cwX2_21 ?_
      refine c_callS (q := 48) (As := [_, _]) hM imJ9_floorDiv_f86c9 isJ9_floorDiv_f86c9 mwX2_48 dX2_takeAway_45 rfl rfl rfl (Nat.le_of_ble_eq_true rfl) ?_
      refine (cC.of_x (fun M N S => j_floorDiv G l d M N S _ (by omega) (by omega))).mono (fun x9 σ9' hp => ?_)
      obtain ⟨rfl, e9⟩ := hp
      intro M N S hM
      rw [e9] at hM; clear e9 σ9'
      show xX G l _ (d + 1) _ _ _ _ M N S
      refine x_lstore (q := 50) (ls' := [(0, _), (1, _), (2, _), (4, _), (5, _), (7, _), (8, _)]) [1, 2, 3, 4, 0, 5, 6] dX2_takeAway_48 rfl (by decide) rfl ?_
      refine x_aload_n (q := 51) dX2_takeAway_50 rfl rfl ?_
      refine c_get (q := 54) (k := b) (f := 2) hM (cE_big _ _ hb) xclX2 fwX2_9 (by decide) dX2_takeAway_51 rfl rfl ?_
      refine x_iload (q := 56) dX2_takeAway_54 rfl rfl ?_
      refine x_iload (q := 58) dX2_takeAway_56 rfl rfl ?_
      refine xn_iadd (q := 59) dX2_takeAway_58 rfl ?_
      refine x_lload (q := 61) dX2_takeAway_59 rfl rfl ?_
      refine x_lload (q := 63) dX2_takeAway_61 rfl rfl ?_
      refine xn_ldc2 (q := 66) 1000000000 dX2_takeAway_63 rfl cwX2_21 ?_
      refine xi_lmul (q := 67) dX2_takeAway_66 rfl rfl (lN_i' _) ?_
      refine xi_lsub (q := 68) dX2_takeAway_67 rfl rfl rfl ?_
      refine xi_l2i (q := 69) dX2_takeAway_68 rfl rfl (by omega) (by omega) ?_
      refine x_topi (y := nI (((((g (s + i) : Nat) : Int) - ((dg y.natAbs i : Nat) : Int) * (o : Int) + cy) - (((g (s + i) : Nat) : Int) - ((dg y.natAbs i : Nat) : Int) * (o : Int) + cy) / 1000000000 * 1000000000).toNat)) (iI_nat (by omega)) ?_
      refine c_limbst (q := 70) hM hb dX2_takeAway_69 rfl (by rw [eb]; omega) (fun M σ69 a69 e69 hM => ?_)
      refine xn_iinc (q := 73) (ls' := [(0, _), (1, _), (2, _), (4, _), (5, _), (7, _), (8, _)]) [1, 2, 3, 4, 5, 0, 6] 1 dX2_takeAway_70 rfl rfl (by decide) (by decide) rfl ?_
      refine x_goto 6 dX2_takeAway_73 (by decide) ?_
      refine x_ls (ls' := [(0, _), (1, _), (2, _), (4, _), (5, _), (7, _)]) [0, 1, 2, 3, 4, 5] rfl ?_
      refine ih (i + 1) ((((g (s + i) : Nat) : Int) - ((dg y.natAbs i : Nat) : Int) * (o : Int) + cy) / 1000000000) σ69 (mu g (s + i) (((((g (s + i) : Nat) : Int) - ((dg y.natAbs i : Nat) : Int) * (o : Int) + cy) - (((g (s + i) : Nat) : Int) - ((dg y.natAbs i : Nat) : Int) * (o : Int) + cy) / 1000000000 * 1000000000).toNat)) M N S (by omega) (by omega) (by omega) (k1.trans a69) (fun j hj => ?_) (fun j hj => ?_) (fun j hj => ?_) ?_ hM
      · rw [e69]; simp only [upd]; rw [if_neg (by omega)]; exact k2 j hj
      · rw [e69]
        by_cases ej : j = s + i
        · rw [ej, mu_s]; simp only [upd, if_true]; exact ⟨trivial, by show _ < 1000000000; omega⟩
        · rw [mu_n ej]; simp only [upd, if_neg ej]; exact k3 j hj
      · rw [mu_n (by omega)]; exact k4 j (by omega)
      · rw [show s + (i + 1) = s + i + 1 by omega, val_upd, val_succ, val_succ, B9_succ, ← k4 (s + i) (Nat.le_refl _), Nat.pow_add]
        have hst := add_step (d := g (s + i)) (e := dg y.natAbs i) (v := ((g (s + i) : Nat) : Int) - ((dg y.natAbs i : Nat) : Int) * (o : Int) + cy) hinv (by omega) (by rw [Int.mul_neg]; omega)
        rw [show B9 ^ s * B9 ^ i * B9 = B9 ^ s * (B9 ^ i * B9) from Nat.mul_assoc ..] at hst
        rw [show (val (dg y.natAbs) i + dg y.natAbs i * B9 ^ i) * B9 ^ s = val (dg y.natAbs) i * B9 ^ s + dg y.natAbs i * (B9 ^ s * B9 ^ i) by rw [Nat.add_mul, Nat.mul_assoc, Nat.mul_comm (B9 ^ i)]]
        exact hst

  refine xn_lconst (q := 1) 0 dX2_takeAway_0 rfl (by decide) ?_
  refine x_topl (y := iL 0) rfl ?_
  refine x_lstore (q := 3) (ls' := [(0, _), (1, _), (2, _), (4, _), (5, _)]) [1, 2, 3, 4, 0] dX2_takeAway_1 rfl (by decide) rfl ?_
  refine xn_iconst (q := 4) 0 dX2_takeAway_3 rfl (by decide) ?_
  refine x_istore (q := 6) (ls' := [(0, _), (1, _), (2, _), (4, _), (5, _), (7, _)]) [1, 2, 3, 4, 5, 0] dX2_takeAway_4 rfl (by decide) rfl ?_
  exact loop (m + 1) 0 0 σ f M N S (by omega) (by decide) (by decide) kp.rfl' (fun _ _ => rfl) hl (fun _ _ => rfl) (by simp [val]) hM

theorem val_shift (f : Nat → Nat) (s m : Nat) : val f (s + m) = val f s + val (fun i => f (s + i)) m * B9 ^ s := by
  induction m with
  | zero => simp [val]
  | succ m ih =>
    rw [show s + (m + 1) = s + m + 1 by omega, val_succ, val_succ, ih, Nat.pow_add, Nat.add_mul, Nat.mul_assoc, Nat.mul_comm (B9 ^ m) (B9 ^ s)]
    omega
/-- what a guess says of the number of times that is left -/
def gOk (Q g : Nat) : Prop := g ≤ Q ∧ (g = 0 → Q = 0) ∧ Q ≤ g + 10 ∧ (Q ≤ 10 → Q ≤ g + 1) ∧ (Q ≤ 1 → g = Q)
theorem guess_low {A D T p r : Nat} (hT : 0 < T) (hp : 0 < p) (hr : 0 < r) (h : A * T / (p * r) < D * T / p) : A < D * r := by
  have h1 := Nat.lt_mul_div_succ (A * T) (Nat.mul_pos hp hr)
  have h2 := Nat.mul_le_mul_right r (Nat.div_mul_le_self (D * T) p)
  have h3 := Nat.mul_le_mul_left (p * r) (show A * T / (p * r) + 1 ≤ D * T / p by omega)
  have h4 : A * T < D * r * T := by
    calc A * T < p * r * (A * T / (p * r) + 1) := h1
      _ ≤ p * r * (D * T / p) := h3
      _ = D * T / p * p * r := by rw [Nat.mul_comm, Nat.mul_assoc]
      _ ≤ D * T * r := h2
      _ = D * r * T := by rw [Nat.mul_right_comm]
  exact Nat.lt_of_mul_lt_mul_right h4
theorem guess_g {A D T p r : Nat} (hT : 0 < T) (hp : 0 < p) (hr : 0 < r) (hD : 0 < D) (h1 : 100000000 ≤ D * T / p) (h2 : A < D * r * 1000000000) : A * T / (p * r) / (D * T / p + 1) ≤ A / (D * r) ∧ A / (D * r) ≤ A * T / (p * r) / (D * T / p + 1) + 10 ∧ (A / (D * r) ≤ 10 → A / (D * r) ≤ A * T / (p * r) / (D * T / p + 1) + 1) := by
  have hK : 0 < D * r := Nat.mul_pos hD hr
  have hpr : 0 < p * r := Nat.mul_pos hp hr
  generalize hseen : A * T / (p * r) = seen
  generalize hhead : D * T / p = head at *
  have a1 : D * T < p * (head + 1) := by rw [← hhead]; exact Nat.lt_mul_div_succ _ hp
  have a2 : seen * (p * r) ≤ A * T := by rw [← hseen]; exact Nat.div_mul_le_self _ _
  have a3 : head * p ≤ D * T := by rw [← hhead]; exact Nat.div_mul_le_self _ _
  have a4 := Nat.div_mul_le_self seen (head + 1)
  generalize hg : seen / (head + 1) = g at *
  have b1 : g * (D * r) ≤ A := by
    have : g * (D * r) * T ≤ A * T := by
      calc g * (D * r) * T = g * r * (D * T) := by grind
        _ ≤ g * r * (p * (head + 1)) := Nat.mul_le_mul_left _ (Nat.le_of_lt a1)
        _ = g * (head + 1) * (p * r) := by grind
        _ ≤ seen * (p * r) := Nat.mul_le_mul_right _ a4
        _ ≤ A * T := a2
    exact Nat.le_of_mul_le_mul_right this hT
  have b2 : A / (D * r) * head ≤ seen := by
    rw [← hseen, Nat.le_div_iff_mul_le hpr]
    calc A / (D * r) * head * (p * r) = A / (D * r) * r * (head * p) := by grind
      _ ≤ A / (D * r) * r * (D * T) := Nat.mul_le_mul_left _ a3
      _ = A / (D * r) * (D * r) * T := by grind
      _ ≤ A * T := Nat.mul_le_mul_right _ (Nat.div_mul_le_self _ _)
  have b3 : A / (D * r) < 1000000000 := (Nat.div_lt_iff_lt_mul hK).mpr (by rw [Nat.mul_comm]; exact h2)
  have b4 : g ≤ A / (D * r) := (Nat.le_div_iff_mul_le hK).mpr b1
  generalize A / (D * r) = Q at *
  have key : ∀ w, Q ≤ w * (head + 1) → Q ≤ g + w := fun w hw => by
    rcases Nat.lt_or_ge (g + w) Q with h | h
    · exfalso
      have c1 : (Q - w) * (head + 1) ≤ seen := by
        have : (Q - w) * (head + 1) + w * (head + 1) = Q * head + Q := by
          rw [← Nat.add_mul, show Q - w + w = Q by omega, Nat.mul_add, Nat.mul_one]
        omega
      have c2 : Q - w ≤ seen / (head + 1) := (Nat.le_div_iff_mul_le (by omega)).mpr c1
      omega
    · exact h
  exact ⟨b4, key 10 (by omega), fun h => key 1 (by omega)⟩

theorem gOk0 {Q : Nat} (h : Q = 0) : gOk Q 0 := by unfold gOk; omega
theorem gOk11 : gOk 1 1 := by unfold gOk; omega
theorem gOk1 {Q g : Nat} (h1 : g ≤ Q) (h2 : Q ≤ 10 → Q ≤ g + 1) (h3 : g = 0) (h4 : 0 < Q) (h5 : Q ≤ g + 10) : Q = 1 := by omega

set_option maxRecDepth 100000 in
set_option maxHeartbeats 4000000 in
theorem b_guess (G : xG) (l : Launch) (ad : Nat → Nat) (F : xM) (R : Nat × Nat) (d : Nat) (σ : cZ) (b c : Nat) (hb : isBg b) (hc : isBg c) (y : Int) (hy : Bg σ c y) (m s t : Nat) (hm : nl y.natAbs m) (hm1 : 1 ≤ m) (f : Nat → Nat) (hs : s + m < (σ b).2.2 1) (hl : ∀ j, j ≤ s + m → (σ (b + 100)).1 j = nI (f j) ∧ f j < B9) (ht : t ≤ 8) (hh1 : 100000000 ≤ y.natAbs * 10 ^ t / B9 ^ (m - 1)) (hh2 : y.natAbs * 10 ^ t / B9 ^ (m - 1) < 1000000000) (hA : val f (s + m + 1) < y.natAbs * B9 ^ s * 1000000000) : cC G l ad F R YX2_guess (d + 1) [.ref (ad b), .ref (ad c), .int (nI s), .long (lN (y.natAbs * 10 ^ t / B9 ^ (m - 1))), .long (lN (10 ^ t))] σ (fun r σ' => (∃ g, r = some (.long (lN g)) ∧ gOk (val f (s + m + 1) / (y.natAbs * B9 ^ s)) g) ∧ σ' = σ) := by
  have hy' := hy
  obtain ⟨m', hm', hlen2, g0, g1, gdg⟩ := hy
  obtain rfl := nl_uniq hm hm'
  have hT : 0 < 10 ^ t := Nat.pow_pos (by decide)
  have hp := B9_pos (m - 1)
  have hr := B9_pos s
  have hD : 0 < y.natAbs := by
    rcases hm.2 with h | h
    · omega
    · exact Nat.lt_of_lt_of_le (B9_pos _) h
  have hK : 0 < y.natAbs * B9 ^ s := Nat.mul_pos hD hr
  have hpr : B9 ^ (m - 1) * B9 ^ s = B9 ^ (s + m - 1) := by rw [← Nat.pow_add]; congr 1; omega
  have hfT : frontV f (s + m - 1) (f (s + m)) t = val f (s + m + 1) * 10 ^ t / (B9 ^ (m - 1) * B9 ^ s) := by
    rw [frontV_eq (fun j hj => (hl j (by omega)).2) ht (by omega), show s + m - 1 + 1 = s + m by omega, hpr]
    rfl
  have hgl := guess_low (A := val f (s + m + 1)) hT hp hr (D := y.natAbs)
  have hgg := guess_g (A := val f (s + m + 1)) hT hp hr hD hh1 hA
  have htop : f (s + m) * 10 ^ t < 1000000000 := by
    have h1 : f (s + m) * B9 ^ (s + m) ≤ val f (s + m + 1) := by rw [val_succ]; omega
    have h2 := Nat.lt_mul_div_succ (y.natAbs * 10 ^ t) hp
    have h3 : f (s + m) * 10 ^ t * B9 ^ (s + m) < 1000000000 * B9 ^ (s + m) := by
      calc f (s + m) * 10 ^ t * B9 ^ (s + m) = f (s + m) * B9 ^ (s + m) * 10 ^ t := by rw [Nat.mul_right_comm]
        _ ≤ val f (s + m + 1) * 10 ^ t := Nat.mul_le_mul_right _ h1
        _ < y.natAbs * B9 ^ s * 1000000000 * 10 ^ t := Nat.mul_lt_mul_of_pos_right hA hT
        _ = y.natAbs * 10 ^ t * (B9 ^ s * 1000000000) := by grind
        _ ≤ B9 ^ (m - 1) * (y.natAbs * 10 ^ t / B9 ^ (m - 1) + 1) * (B9 ^ s * 1000000000) := Nat.mul_le_mul_right _ (Nat.le_of_lt h2)
        _ ≤ B9 ^ (m - 1) * 1000000000 * (B9 ^ s * 1000000000) := Nat.mul_le_mul_right _ (Nat.mul_le_mul_left _ (by omega))
        _ = 1000000000 * (B9 ^ (m - 1) * B9 ^ s * B9) := by show _ = 1000000000 * (B9 ^ (m - 1) * B9 ^ s * 1000000000); grind
        _ = 1000000000 * B9 ^ (s + m) := by rw [hpr, ← B9_succ, show s + m - 1 + 1 = s + m by omega]
    exact Nat.lt_of_mul_lt_mul_right h3
  generalize hhead : y.natAbs * 10 ^ t / B9 ^ (m - 1) = head at *
  generalize hA0 : val f (s + m + 1) = A at *
  have hsl : A * 10 ^ t / (B9 ^ (m - 1) * B9 ^ s) < 2000000000000000000 := by
    rw [← hfT]
    have h1 := frontV_lt (f := f) (i := s + m - 1) (a := f (s + m)) (t := t) (hl _ (by omega)).2 (hl _ (by omega)).2 ht
    have hp8 : 10 ^ t ≤ 10 ^ 8 := Nat.pow_le_pow_right (by decide) ht
    have h2 : (f (s + m) + 1) * 1000000000 * 10 ^ t = (f (s + m) * 10 ^ t + 10 ^ t) * 1000000000 := by grind
    rw [h2] at h1
    omega
  generalize hseen : A * 10 ^ t / (B9 ^ (m - 1) * B9 ^ s) = seen at *
  have hgd := Nat.div_le_self seen (head + 1)
  have hf0 : seen < head + 1 → f (s + m) = 0 := fun hsh => by
    rcases Nat.eq_zero_or_pos (f (s + m)) with h | h
    · exact h
    · exfalso
      have q1 : frontV f (s + m - 1) (f (s + m)) t = seen := hfT
      unfold frontV at q1
      have q2 : 1 * 1 ≤ f (s + m) * 10 ^ t := Nat.mul_le_mul h hT
      have q3 : (f (s + m) * 1000000000 + f (s + m - 1)) * 10 ^ t = f (s + m) * 10 ^ t * 1000000000 + f (s + m - 1) * 10 ^ t := by grind
      rw [q3] at q1
      omega
  have hKK : seen < head + 1 → (y.natAbs ≤ val (fun i => f (s + i)) m ↔ y.natAbs * B9 ^ s ≤ A) := fun hsh => by
    have q1 : A = val f s + val (fun i => f (s + i)) m * B9 ^ s := by rw [← hA0, val_succ, hf0 hsh, Nat.zero_mul, Nat.add_zero, val_shift]
    have q2 := val_lt (f := f) (n := s) (fun j hj => (hl j (by omega)).2)
    rw [q1]
    generalize val (fun i => f (s + i)) m = W at *
    constructor
    · intro h
      have := Nat.mul_le_mul_right (B9 ^ s) h
      omega
    · intro h
      rcases Nat.lt_or_ge W y.natAbs with h' | h'
      · have := Nat.mul_le_mul_right (B9 ^ s) (show W + 1 ≤ y.natAbs by omega)
        rw [Nat.add_mul] at this
        omega
      · exact h'
  refine cC.of (ls := [(0, .ref (ad b)), (1, .ref (ad c)), (2, .int (nI s)), (3, .long (lN head)), (5, .long (lN (10 ^ t)))]) (by decide) (Nat.le_of_ble_eq_true rfl) rfl fun M N S hM => ?_
  have hll := hM.2.2.2.1 b hb
  have hl2 := hM.2.2.2.1 c hc

  refine x_iload_n (q := 1) dX2_guess_0 rfl rfl ?_
  refine x_aload_n (q := 2) dX2_guess_1 rfl rfl ?_
  refine c_get (q := 5) (k := c) (f := 1) hM (cE_big _ _ hc) xclX2 fwX2_13 (by decide) dX2_guess_2 rfl rfl ?_
  refine x_topi (y := nI m) (by exact g1) ?_
  refine xn_iadd (q := 6) dX2_guess_5 rfl ?_
  refine x_istore (q := 8) (ls' := [(0, _), (1, _), (2, _), (3, _), (5, _), (7, _)]) [1, 2, 3, 4, 5, 0] dX2_guess_6 rfl (by decide) rfl ?_
  refine x_aload_n (q := 9) dX2_guess_8 rfl rfl ?_
  refine x_iload (q := 11) dX2_guess_9 rfl rfl ?_
  refine xn_iconst (q := 12) 1 dX2_guess_11 rfl (by decide) ?_
  refine xn_isub (q := 13) dX2_guess_12 rfl (by omega) ?_
  refine x_aload_n (q := 14) dX2_guess_13 rfl rfl ?_
  refine c_get (q := 17) (k := b) (f := 2) hM (cE_big _ _ hb) xclX2 fwX2_9 (by decide) dX2_guess_14 rfl rfl ?_
  refine x_iload (q := 19) dX2_guess_17 rfl rfl ?_
  refine c_limb (q := 20) hM hb dX2_guess_19 rfl (by omega) ?_
  refine x_topi (y := nI (f (s + m))) (by exact (hl (s + m) (by omega)).1) ?_
  refine xn_i2l (q := 21) dX2_guess_20 rfl (show f (s + m) < 2 ^ 31 from Nat.lt_trans (hl (s + m) (by omega)).2 (by decide)) ?_
  refine x_lload (q := 23) dX2_guess_21 rfl rfl ?_
  refine c_call (q := 26) (k := b) (As := [_, _, _]) hM (cE_big _ _ hb) imX2_front ivX2_front ilX2_front mwX2_62 xciX2 dX2_guess_23 rfl rfl rfl (Nat.le_of_ble_eq_true rfl) ?_
  refine (b_front G l ad F R d σ b hb f (s + m - 1) (f (s + m)) t (by omega) ht (by omega) (fun j hj => hl j (by omega))).mono (fun x9 σ9' hp => ?_)
  obtain ⟨rfl, e9⟩ := hp
  intro M N S hM
  rw [e9] at hM; clear e9 σ9'
  rw [hfT]
  show xX G l _ (d + 1) _ _ _ _ M N S
  refine x_lstore (q := 28) (ls' := [(0, _), (1, _), (2, _), (3, _), (5, _), (7, _), (8, _)]) [1, 2, 3, 4, 5, 6, 0] dX2_guess_26 rfl (by decide) rfl ?_
  refine x_lload_n (q := 29) dX2_guess_28 rfl rfl ?_
  refine xn_lconst (q := 30) 0 dX2_guess_29 rfl (by decide) ?_
  refine xn_lcmp_lt (q1 := 31) (q := 34) 41 dX2_guess_30 rfl dX2_guess_31 (by decide) rfl (by omega) (by omega) (fun hc30 => absurd hc30 (by omega)) (fun hc30 => ?_)
  refine x_lload (q := 36) dX2_guess_34 rfl rfl ?_
  refine x_lload_n (q := 37) dX2_guess_36 rfl rfl ?_
  refine xn_lcmp_ge (q1 := 38) (q := 41) 43 dX2_guess_37 rfl dX2_guess_38 (by decide) rfl (by omega) (by omega) (fun hc37 => ?_) (fun hc37 => ?_)
  · refine x_lload (q := 45) dX2_guess_43 rfl rfl ?_
    refine x_lload_n (q := 46) dX2_guess_45 rfl rfl ?_
    refine xn_lconst (q := 47) 1 dX2_guess_46 rfl (by decide) ?_
    refine xn_ladd (q := 48) dX2_guess_47 rfl ?_
    refine xn_ldiv (q := 49) dX2_guess_48 rfl (by omega) (by omega) (by omega) ?_
    refine x_lstore (q := 51) (ls' := [(0, _), (1, _), (2, _), (3, _), (5, _), (7, _), (8, _), (10, _)]) [1, 2, 3, 4, 5, 6, 7, 0] dX2_guess_49 rfl (by decide) rfl ?_
    refine x_lload (q := 53) dX2_guess_51 rfl rfl ?_
    refine xn_lconst (q := 54) 0 dX2_guess_53 rfl (by decide) ?_
    refine xn_lcmp_ne (q1 := 55) (q := 58) 71 dX2_guess_54 rfl dX2_guess_55 (by decide) rfl (by omega) (by omega) (fun hc54 => ?_) (fun hc54 => ?_)
    · refine x_lload (q := 73) dX2_guess_71 rfl rfl ?_
      exact x_lret rfl dX2_guess_73 (c_ret hM ⟨⟨_, rfl, hgg.1, fun h => absurd h hc54, hgg.2.1, hgg.2.2, fun h => Nat.le_antisymm hgg.1 (Nat.le_trans h (Nat.pos_of_ne_zero hc54))⟩, rfl⟩)
    · refine x_aload_n (q := 59) dX2_guess_58 rfl rfl ?_
      refine x_aload_n (q := 60) dX2_guess_59 rfl rfl ?_
      refine x_iload_n (q := 61) dX2_guess_60 rfl rfl ?_
      refine c_call (q := 64) (k := b) (As := [_, _]) hM (cE_big _ _ hb) imX2_reaches ivX2_reaches ilX2_reaches mwX2_76 xciX2 dX2_guess_61 rfl rfl rfl (Nat.le_of_ble_eq_true rfl) ?_
      have hz : seen / (head + 1) = 0 := by omega
      have hsh : seen < head + 1 := by rcases Nat.div_eq_zero_iff.mp hz with h | h <;> omega
      have hK1 := hKK hsh
      refine (b_reaches G l ad F R d σ b c hb hc y hy' m s hm f (by omega) (fun j hj => hl j (by omega))).mono (fun x9 σ9' hp => ?_)
      obtain ⟨rfl, e9⟩ := hp
      intro M N S hM
      rw [e9] at hM; clear e9 σ9'
      show xX G l _ (d + 1) _ _ _ _ M N S
      refine x_if_eq (q := 67) 71 dX2_guess_64 (by decide) rfl (fun hc64 => ?_) (fun hc64 => ?_)
      · refine x_lload (q := 73) dX2_guess_71 rfl rfl ?_
        exact x_lret rfl dX2_guess_73 (c_ret hM ⟨⟨_, rfl, by rw [hz]; exact gOk0 (Nat.div_eq_of_lt (Nat.not_le.mp (fun h => of_decide_eq_false (bI_eq.mp hc64) (hK1.mpr h))))⟩, rfl⟩)
      · refine xn_lconst (q := 68) 1 dX2_guess_67 rfl (by decide) ?_
        refine x_goto 73 dX2_guess_68 (by decide) ?_
        exact x_lret rfl dX2_guess_73 (c_ret hM ⟨⟨1, rfl, by rw [gOk1 hgg.1 hgg.2.2 hz (Nat.div_pos (hK1.mp (of_decide_eq_true (bI_ne.mp hc64))) hK) hgg.2.1]; exact gOk11⟩, rfl⟩)
  · refine xn_lconst (q := 42) 0 dX2_guess_41 rfl (by decide) ?_
    exact x_lret rfl dX2_guess_42 (c_ret hM ⟨⟨0, rfl, gOk0 (Nat.div_eq_of_lt (hgl hc37))⟩, rfl⟩)

end XA6
