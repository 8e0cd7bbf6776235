section XA4
theorem sg_mulQ (x y : Int) : sg x * sg y = sg (x * y) := by
  rcases Int.lt_trichotomy x 0 with a | a | a <;> rcases Int.lt_trichotomy y 0 with c | c | c
  · rw [sg_neg a, sg_neg c, sg_pos (Int.mul_pos_of_neg_of_neg a c)]; rfl
  · rw [c, Int.mul_zero, sg_zero]; exact Int32.mul_zero
  · rw [sg_neg a, sg_pos c, sg_neg (Int.mul_neg_of_neg_of_pos a c)]; rfl
  · rw [a, Int.zero_mul, sg_zero]; exact Int32.zero_mul
  · rw [a, Int.zero_mul, sg_zero]; exact Int32.zero_mul
  · rw [a, Int.zero_mul, sg_zero]; exact Int32.zero_mul
  · rw [sg_pos a, sg_neg c, sg_neg (Int.mul_neg_of_pos_of_neg a c)]; rfl
  · rw [c, Int.mul_zero, sg_zero]; exact Int32.mul_zero
  · rw [sg_pos a, sg_pos c, sg_pos (Int.mul_pos a c)]; rfl
theorem prod_step {V V0 C Y X P q v : Nat} (h : V + C * (P * q) = V0 + X * Y * P) {g dy : Nat} (hv : v = g + X * dy + C) : V + (v - v / 1000000000 * 1000000000) * (P * q) + v / 1000000000 * (P * (q * B9)) = V0 + g * (P * q) + X * (Y + dy * q) * P := by
  have e : (v - v / 1000000000 * 1000000000) + v / 1000000000 * 1000000000 = v := by omega
  have e3 : (v - v / 1000000000 * 1000000000) * (P * q) + v / 1000000000 * (P * (q * B9)) = v * (P * q) := by
    have : v / 1000000000 * (P * (q * B9)) = v / 1000000000 * 1000000000 * (P * q) := by
      show v / 1000000000 * (P * (q * 1000000000)) = _
      generalize v / 1000000000 = r
      grind
    rw [this, ← Nat.add_mul, e]
  rw [Nat.add_assoc, e3, hv]
  generalize v / 1000000000 = r at *
  grind

theorem valz (n : Nat) : val (fun _ => 0) n = 0 := by
  induction n with
  | zero => rfl
  | succ n ih => rw [val_succ, ih]; omega

set_option maxRecDepth 100000 in
set_option maxHeartbeats 4000000 in
theorem b_product (G : xG) (l : Launch) (ad : Nat → Nat) (F : xM) (R : Nat × Nat) (d : Nat) (σ : cZ) (b c e : Nat) (hb : isBg b) (hc : isBg c) (he : isBg e) (hbc : b ≠ c) (hbe : b ≠ e) (x y : Int) (hx : Bg σ c x) (hy : Bg σ e y) (p1 p2 : Nat) (hp : p1 + p2 ≤ 1024) (hxl : x.natAbs < B9 ^ p1) (hyl : y.natAbs < B9 ^ p2) : cC G l ad F R YX2_product (d + 3) [.ref (ad b), .ref (ad c), .ref (ad e)] σ (fun r σ' => r = none ∧ kp [b, b + 100] σ σ' ∧ Bg σ' b (x * y)) := by
  obtain ⟨n, hn, hlen, h0, h1, hdg⟩ := hx
  obtain ⟨m, hm, hlen2, g0, g1, gdg⟩ := hy
  have hn1 := nl_of_le hn hxl
  have hm1 := nl_of_le hm hyl
  obtain ⟨x1, x2, x3, x4⟩ := bg_ne hb hc hbc
  obtain ⟨y1, y2, y3, y4⟩ := bg_ne hb he hbe
  have hB : B9 = 1000000000 := rfl
  refine cC.of (ls := [(0, .ref (ad b)), (1, .ref (ad c)), (2, .ref (ad e))]) (by decide) (Nat.le_of_ble_eq_true rfl) rfl fun M N S hM => ?_
  have inner : ∀ (i : Nat), i < n → ∀ (f0 : Nat → Nat) (u j C : Nat) (σ1 : cZ) (f : Nat → Nat) (M : xM) (N S : Nat), (∀ (σ2 : cZ) (f' : Nat → Nat) (M : xM) (N S : Nat), kp [b, b + 100] σ σ2 → n + m ≤ (σ2 b).2.2 1 → (∀ k, k < i + 1 + m → (σ2 (b + 100)).1 k = nI (f' k) ∧ f' k < B9) → val f' (i + 1 + m) = val f0 (i + m) + dg x.natAbs i * y.natAbs * B9 ^ i → cA G ad F R σ2 M N S → xX G l YX2_product (d + 3) (cQ G ad F R (fun r σ' => r = none ∧ kp [b, b + 100] σ σ' ∧ Bg σ' b (x * y))) 23 [(0, .ref (ad b)), (1, .ref (ad c)), (2, .ref (ad e)), (3, .int (nI (n + m))), (4, .int (nI (i + 1)))] [] M N S) → j + u = m → C < 1000000000 → kp [b, b + 100] σ σ1 → n + m ≤ (σ1 b).2.2 1 → (∀ k, k < i + m → (σ1 (b + 100)).1 k = nI (f k) ∧ f k < B9) → (∀ k, i + j ≤ k → f k = f0 k) → val f (i + j) + C * (B9 ^ i * B9 ^ j) = val f0 (i + j) + dg x.natAbs i * val (dg y.natAbs) j * B9 ^ i → cA G ad F R σ1 M N S → xX G l YX2_product (d + 3) (cQ G ad F R (fun r σ' => r = none ∧ kp [b, b + 100] σ σ' ∧ Bg σ' b (x * y))) 48 [(0, .ref (ad b)), (1, .ref (ad c)), (2, .ref (ad e)), (3, .int (nI (n + m))), (4, .int (nI i)), (5, .long (lN C)), (7, .long (lN (dg x.natAbs i))), (9, .int (nI j))] [] M N S := by
    intro i hi f0 u
    induction u with
    | zero =>
      intro j C σ1 f M N S hQ hj hC k1 k2 k3 k4 hinv hM
      have hll := hM.2.2.2.1 b hb
      obtain rfl : j = m := by omega
      have ee : σ1 e = σ e := k1 e y1

      refine x_iload (q := 50) dX2_product_48 rfl rfl ?_
      refine x_aload_n (q := 51) dX2_product_50 rfl rfl ?_
      refine c_get (q := 54) (k := e) (f := 1) hM (cE_big _ _ he) xclX2 fwX2_13 (by decide) dX2_product_51 rfl rfl ?_
      refine x_topi (y := nI j) (by rw [ee, g1]) ?_
      refine xn_icmp_ge (q := 57) 119 dX2_product_54 (by decide) rfl (by omega) (by omega) (fun hc54 => ?_) (fun hc54 => absurd hc54 (by omega))
      refine x_aload_n (q := 120) dX2_product_119 rfl rfl ?_
      refine c_get (q := 123) (k := b) (f := 2) hM (cE_big _ _ hb) xclX2 fwX2_9 (by decide) dX2_product_120 rfl rfl ?_
      refine x_iload (q := 125) dX2_product_123 rfl rfl ?_
      refine x_aload_n (q := 126) dX2_product_125 rfl rfl ?_
      refine c_get (q := 129) (k := e) (f := 1) hM (cE_big _ _ he) xclX2 fwX2_13 (by decide) dX2_product_126 rfl rfl ?_
      refine x_topi (y := nI j) (by rw [ee, g1]) ?_
      refine xn_iadd (q := 130) dX2_product_129 rfl ?_
      refine x_lload (q := 132) dX2_product_130 rfl rfl ?_
      refine xn_l2i (q := 133) dX2_product_132 rfl ?_
      refine c_limbst (q := 134) hM hb dX2_product_133 rfl (by omega) (fun M σ133 a133 e133 hM => ?_)
      refine xn_iinc (q := 137) (ls' := [(0, _), (1, _), (2, _), (3, _), (4, _), (5, _), (7, _), (9, _)]) [1, 2, 3, 4, 0, 5, 6, 7] 1 dX2_product_134 rfl rfl (by decide) (by decide) rfl ?_
      refine x_goto 23 dX2_product_137 (by decide) ?_
      refine x_ls (ls' := [(0, _), (1, _), (2, _), (3, _), (4, _)]) [0, 1, 2, 3, 4] rfl ?_
      refine hQ σ133 (mu f (i + j) C) M N S (k1.trans a133.l) (by rw [a133 b (by simp)]; exact k2) (fun k hk => ?_) ?_ hM
      · rw [e133]
        by_cases ek : k = i + j
        · rw [ek, mu_s]; simp only [upd, if_true]; exact ⟨trivial, hC⟩
        · rw [mu_n ek]; simp only [upd, if_neg ek]; exact k3 k (by omega)
      · rw [show i + 1 + j = i + j + 1 by omega, val_upd]
        rw [val_bd hm (Nat.le_refl _)] at hinv
        rw [Nat.pow_add]; exact hinv

    | succ u ih =>
      intro j C σ1 f M N S hQ hj hC k1 k2 k3 k4 hinv hM
      have hll := hM.2.2.2.1 b hb
      have hle := hM.2.2.2.1 e he
      have ee : σ1 e = σ e := k1 e y1
      have ee2 : σ1 (e + 100) = σ (e + 100) := k1 _ y2
      have hd1 : dg x.natAbs i < 1000000000 := dg_lt _ _
      have hd2 : dg y.natAbs j < 1000000000 := dg_lt _ _
      have hfk : f (i + j) < 1000000000 := (k3 (i + j) (by omega)).2
      have hmul : dg x.natAbs i * dg y.natAbs j ≤ 999999999 * 999999999 := Nat.mul_le_mul (by omega) (by omega)

      refine x_iload (q := 50) dX2_product_48 rfl rfl ?_
      refine x_aload_n (q := 51) dX2_product_50 rfl rfl ?_
      refine c_get (q := 54) (k := e) (f := 1) hM (cE_big _ _ he) xclX2 fwX2_13 (by decide) dX2_product_51 rfl rfl ?_
      refine x_topi (y := nI m) (by rw [ee, g1]) ?_
      refine xn_icmp_ge (q := 57) 119 dX2_product_54 (by decide) rfl (by omega) (by omega) (fun hc54 => absurd hc54 (by omega)) (fun hc54 => ?_)
      refine x_aload_n (q := 58) dX2_product_57 rfl rfl ?_
      refine c_get (q := 61) (k := b) (f := 2) hM (cE_big _ _ hb) xclX2 fwX2_9 (by decide) dX2_product_58 rfl rfl ?_
      refine x_iload (q := 63) dX2_product_61 rfl rfl ?_
      refine x_iload (q := 65) dX2_product_63 rfl rfl ?_
      refine xn_iadd (q := 66) dX2_product_65 rfl ?_
      refine c_limb (q := 67) hM hb dX2_product_66 rfl (by omega) ?_
      refine x_topi (y := nI (f (i + j))) (by exact (k3 (i + j) (by omega)).1) ?_
      refine xn_i2l (q := 68) dX2_product_67 rfl (by omega) ?_
      refine x_lload (q := 70) dX2_product_68 rfl rfl ?_
      refine x_aload_n (q := 71) dX2_product_70 rfl rfl ?_
      refine c_get (q := 74) (k := e) (f := 2) hM (cE_big _ _ he) xclX2 fwX2_9 (by decide) dX2_product_71 rfl rfl ?_
      refine x_iload (q := 76) dX2_product_74 rfl rfl ?_
      refine c_limb (q := 77) hM he dX2_product_76 rfl (by rw [ee]; omega) ?_
      refine x_topi (y := nI (dg y.natAbs j)) (by rw [ee2, gdg j (by omega)]) ?_
      refine xn_i2l (q := 78) dX2_product_77 rfl (by omega) ?_
      refine xn_lmul (q := 79) dX2_product_78 rfl ?_
      refine xn_ladd (q := 80) dX2_product_79 rfl ?_
      refine x_lload (q := 82) dX2_product_80 rfl rfl ?_
      refine xn_ladd (q := 83) dX2_product_82 rfl ?_
      refine x_lstore (q := 85) (ls' := [(0, _), (1, _), (2, _), (3, _), (4, _), (5, _), (7, _), (9, _), (10, _)]) [1, 2, 3, 4, 5, 6, 7, 8, 0] dX2_product_83 rfl (by decide) rfl ?_
      refine x_lload (q := 87) dX2_product_85 rfl rfl ?_
      refine xn_ldc2 (q := 90) 1000000000 dX2_product_87 rfl cwX2_21 ?_
      refine xn_ldiv (q := 91) dX2_product_90 rfl (by omega) (by decide) (by decide) ?_
      refine x_lstore (q := 93) (ls' := [(0, _), (1, _), (2, _), (3, _), (4, _), (5, _), (7, _), (9, _), (10, _)]) [1, 2, 3, 4, 5, 0, 6, 7, 8] dX2_product_91 rfl (by decide) rfl ?_
      refine x_aload_n (q := 94) dX2_product_93 rfl rfl ?_
      refine c_get (q := 97) (k := b) (f := 2) hM (cE_big _ _ hb) xclX2 fwX2_9 (by decide) dX2_product_94 rfl rfl ?_
      refine x_iload (q := 99) dX2_product_97 rfl rfl ?_
      refine x_iload (q := 101) dX2_product_99 rfl rfl ?_
      refine xn_iadd (q := 102) dX2_product_101 rfl ?_
      refine x_lload (q := 104) dX2_product_102 rfl rfl ?_
      refine x_lload (q := 106) dX2_product_104 rfl rfl ?_
      refine xn_ldc2 (q := 109) 1000000000 dX2_product_106 rfl cwX2_21 ?_
      refine xn_lmul (q := 110) dX2_product_109 rfl ?_
      refine xn_lsub (q := 111) dX2_product_110 rfl (by omega) ?_
      refine xn_l2i (q := 112) dX2_product_111 rfl ?_
      refine c_limbst (q := 113) hM hb dX2_product_112 rfl (by omega) (fun M σ112 a112 e112 hM => ?_)
      refine xn_iinc (q := 116) (ls' := [(0, _), (1, _), (2, _), (3, _), (4, _), (5, _), (7, _), (9, _), (10, _)]) [1, 2, 3, 4, 5, 6, 7, 0, 8] 1 dX2_product_113 rfl rfl (by decide) (by decide) rfl ?_
      refine x_goto 48 dX2_product_116 (by decide) ?_
      refine x_ls (ls' := [(0, _), (1, _), (2, _), (3, _), (4, _), (5, _), (7, _), (9, _)]) [0, 1, 2, 3, 4, 5, 6, 7] rfl ?_
      refine ih (j + 1) ((f (i + j) + dg x.natAbs i * dg y.natAbs j + C) / 1000000000) σ112 (mu f (i + j) ((f (i + j) + dg x.natAbs i * dg y.natAbs j + C) - (f (i + j) + dg x.natAbs i * dg y.natAbs j + C) / 1000000000 * 1000000000)) M N S hQ (by omega) (by omega) (k1.trans a112.l) (by rw [a112 b (by simp)]; exact k2) (fun k hk => ?_) (fun k hk => ?_) ?_ hM
      · rw [e112]
        by_cases ek : k = i + j
        · rw [ek, mu_s]; simp only [upd, if_true]; exact ⟨trivial, by rw [hB]; omega⟩
        · rw [mu_n ek]; simp only [upd, if_neg ek]; exact k3 k (by omega)
      · rw [mu_n (by omega)]; exact k4 k (by omega)
      · rw [show i + (j + 1) = i + j + 1 by omega, val_upd, val_succ, val_succ, Nat.pow_add, B9_succ j, ← k4 (i + j) (Nat.le_refl _)]
        exact prod_step hinv rfl

  have outer : ∀ (u i : Nat) (σ1 : cZ) (f : Nat → Nat) (M : xM) (N S : Nat), i + u = n → kp [b, b + 100] σ σ1 → n + m ≤ (σ1 b).2.2 1 → (∀ k, k < i + m → (σ1 (b + 100)).1 k = nI (f k) ∧ f k < B9) → val f (i + m) = val (dg x.natAbs) i * y.natAbs → cA G ad F R σ1 M N S → xX G l YX2_product (d + 3) (cQ G ad F R (fun r σ' => r = none ∧ kp [b, b + 100] σ σ' ∧ Bg σ' b (x * y))) 23 [(0, .ref (ad b)), (1, .ref (ad c)), (2, .ref (ad e)), (3, .int (nI (n + m))), (4, .int (nI i))] [] M N S := by
    intro u
    induction u with
    | zero =>
      intro i σ1 f M N S hi k1 k2 k3 hinv hM
      have hll := hM.2.2.2.1 b hb
      obtain rfl : i = n := by omega
      have ec : σ1 c = σ c := k1 c x1
      have ee : σ1 e = σ e := k1 e y1
      rw [val_bd hn (Nat.le_refl _)] at hinv

      refine x_iload (q := 25) dX2_product_23 rfl rfl ?_
      refine x_aload_n (q := 26) dX2_product_25 rfl rfl ?_
      refine c_get (q := 29) (k := c) (f := 1) hM (cE_big _ _ hc) xclX2 fwX2_13 (by decide) dX2_product_26 rfl rfl ?_
      refine x_topi (y := nI i) (by rw [ec, h1]) ?_
      refine xn_icmp_ge (q := 32) 140 dX2_product_29 (by decide) rfl (by omega) (by omega) (fun hc29 => ?_) (fun hc29 => absurd hc29 (by omega))
      refine x_aload_n (q := 141) dX2_product_140 rfl rfl ?_
      refine x_aload_n (q := 142) dX2_product_141 rfl rfl ?_
      refine c_get (q := 145) (k := c) (f := 0) hM (cE_big _ _ hc) xclX2 fwX2_23 (by decide) dX2_product_142 rfl rfl ?_
      refine x_topi (y := sg x) (by rw [ec, h0]) ?_
      refine x_aload_n (q := 146) dX2_product_145 rfl rfl ?_
      refine c_get (q := 149) (k := e) (f := 0) hM (cE_big _ _ he) xclX2 fwX2_23 (by decide) dX2_product_146 rfl rfl ?_
      refine x_topi (y := sg y) (by rw [ee, g0]) ?_
      refine x_imul (q := 150) dX2_product_149 rfl ?_
      refine c_puti (q := 153) (k := b) (f := 0) hM (cE_big _ _ hb) (by rw [cE_big _ _ hb, mu_s]; rfl) xclX2 fwX2_23 (by decide) rfl rfl (Nat.le_of_ble_eq_true rfl) dX2_product_150 rfl rfl rfl (fun M σ150 a150 e150 b150 hM => ?_)
      refine x_aload_n (q := 154) dX2_product_153 rfl rfl ?_
      refine x_iload_n (q := 155) dX2_product_154 rfl rfl ?_
      refine c_call (q := 158) (k := b) (As := [_]) hM (cE_big _ _ hb) imX2_trim ivX2_trim ilX2_trim mwX2_55 xciX2 dX2_product_155 rfl rfl rfl (Nat.le_of_ble_eq_true rfl) ?_
      have t3 : σ150 (b + 100) = σ1 (b + 100) := a150 _ (by simp)
      refine (b_trim G l ad F R (d + 2) σ150 b (i + m) hb (x * y) f (by rw [b150]; exact k2) (fun j hj => by rw [t3]; exact (k3 j hj).1) (fun j hj => (k3 j hj).2) (by rw [Int.natAbs_mul]; exact hinv.symm) (fun _ => by rw [e150, mu_s, sg_mulQ])).mono (fun x9 σ6 hp => ?_)
      obtain ⟨rfl, q1, q2, q3⟩ := hp
      intro M N S hM
      show xX G l _ (d + 3) _ _ _ _ M N S
      exact x_vret rfl dX2_product_158 (c_ret hM ⟨rfl, k1.trans (a150.b.trans q1.b), q3⟩)

    | succ u ih =>
      intro i σ1 f M N S hi k1 k2 k3 hinv hM
      have hll := hM.2.2.2.1 b hb
      have hlc := hM.2.2.2.1 c hc
      have ec : σ1 c = σ c := k1 c x1
      have ec2 : σ1 (c + 100) = σ (c + 100) := k1 _ x2
      have hd1 : dg x.natAbs i < 1000000000 := dg_lt _ _

      refine x_iload (q := 25) dX2_product_23 rfl rfl ?_
      refine x_aload_n (q := 26) dX2_product_25 rfl rfl ?_
      refine c_get (q := 29) (k := c) (f := 1) hM (cE_big _ _ hc) xclX2 fwX2_13 (by decide) dX2_product_26 rfl rfl ?_
      refine x_topi (y := nI n) (by rw [ec, h1]) ?_
      refine xn_icmp_ge (q := 32) 140 dX2_product_29 (by decide) rfl (by omega) (by omega) (fun hc29 => absurd hc29 (by omega)) (fun hc29 => ?_)
      refine xn_lconst (q := 33) 0 dX2_product_32 rfl (by decide) ?_
      refine x_lstore (q := 35) (ls' := [(0, _), (1, _), (2, _), (3, _), (4, _), (5, _)]) [1, 2, 3, 4, 5, 0] dX2_product_33 rfl (by decide) rfl ?_
      refine x_aload_n (q := 36) dX2_product_35 rfl rfl ?_
      refine c_get (q := 39) (k := c) (f := 2) hM (cE_big _ _ hc) xclX2 fwX2_9 (by decide) dX2_product_36 rfl rfl ?_
      refine x_iload (q := 41) dX2_product_39 rfl rfl ?_
      refine c_limb (q := 42) hM hc dX2_product_41 rfl (by rw [ec]; omega) ?_
      refine x_topi (y := nI (dg x.natAbs i)) (by rw [ec2, hdg i (by omega)]) ?_
      refine xn_i2l (q := 43) dX2_product_42 rfl (by omega) ?_
      refine x_lstore (q := 45) (ls' := [(0, _), (1, _), (2, _), (3, _), (4, _), (5, _), (7, _)]) [1, 2, 3, 4, 5, 6, 0] dX2_product_43 rfl (by decide) rfl ?_
      refine xn_iconst (q := 46) 0 dX2_product_45 rfl (by decide) ?_
      refine x_istore (q := 48) (ls' := [(0, _), (1, _), (2, _), (3, _), (4, _), (5, _), (7, _), (9, _)]) [1, 2, 3, 4, 5, 6, 7, 0] dX2_product_46 rfl (by decide) rfl ?_
      refine inner i (by omega) f m 0 0 σ1 f M N S (fun σ2 f' M N S j1 j2 j3 j4 hM => ?_) (by omega) (by decide) k1 k2 k3 (fun _ _ => rfl) (by simp [val]) hM
      refine ih (i + 1) σ2 f' M N S (by omega) j1 j2 j3 ?_ hM
      rw [j4, hinv, val_succ, Nat.add_mul]
      rw [Nat.mul_right_comm]

  refine x_aload_n (q := 1) dX2_product_0 rfl rfl ?_
  refine xn_iconst (q := 2) 0 dX2_product_1 rfl (by decide) ?_
  refine c_puti (q := 5) (k := b) (f := 1) hM (cE_big _ _ hb) (by rw [cE_big _ _ hb, mu_s]; rfl) xclX2 fwX2_13 (by decide) rfl rfl (Nat.le_of_ble_eq_true rfl) dX2_product_2 rfl rfl rfl (fun M σ2 a2 e2 b2 hM => ?_)
  refine x_aload_n (q := 6) dX2_product_5 rfl rfl ?_
  refine c_get (q := 9) (k := c) (f := 1) hM (cE_big _ _ hc) xclX2 fwX2_13 (by decide) dX2_product_6 rfl rfl ?_
  refine x_topi (y := nI n) (by rw [a2 c (by simp; omega), h1]) ?_
  refine x_aload_n (q := 10) dX2_product_9 rfl rfl ?_
  refine c_get (q := 13) (k := e) (f := 1) hM (cE_big _ _ he) xclX2 fwX2_13 (by decide) dX2_product_10 rfl rfl ?_
  refine x_topi (y := nI m) (by rw [a2 e (by simp; omega), g1]) ?_
  refine xn_iadd (q := 14) dX2_product_13 rfl ?_
  refine x_istore_n (q := 15) (ls' := [(0, _), (1, _), (2, _), (3, _)]) [1, 2, 3, 0] dX2_product_14 rfl (by decide) rfl ?_
  refine x_aload_n (q := 16) dX2_product_15 rfl rfl ?_
  refine x_iload_n (q := 17) dX2_product_16 rfl rfl ?_
  refine c_call (q := 20) (k := b) (As := [_]) hM (cE_big _ _ hb) imX2_makeRoom ivX2_makeRoom ilX2_makeRoom mwX2_26 xciX2 dX2_product_17 rfl rfl rfl (Nat.le_of_ble_eq_true rfl) ?_
  refine (b_makeRoom G l ad F R d σ2 b 0 (n + m) hb (by omega) (Nat.zero_le _) (by rw [e2, mu_s])).mono (fun x9 σ5 hp => ?_)
  obtain ⟨rfl, p1, p2, p4, p5, p6, p7⟩ := hp
  intro M N S hM
  show xX G l _ (d + 3) _ _ _ _ M N S
  refine xn_iconst (q := 21) 0 dX2_product_20 rfl (by decide) ?_
  refine x_istore (q := 23) (ls' := [(0, _), (1, _), (2, _), (3, _), (4, _)]) [1, 2, 3, 4, 0] dX2_product_21 rfl (by decide) rfl ?_
  exact outer n 0 σ5 (fun _ => 0) M N S (by omega) (a2.b.trans p1) p4 (fun k hk => ⟨p7 k (Nat.zero_le _) (by omega), by decide⟩) (by rw [Nat.zero_add, valz]; simp [val]) hM

end XA4
