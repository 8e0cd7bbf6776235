section XA3
theorem addQ {x y k s way t : Int} (hs : s = 1 ∨ s = -1) (hx : x = s * x.natAbs) (hw : way = y.sign * k.sign) (hw0 : way ≠ 0) (ht : t = if s = way then (k.natAbs : Int) else -(k.natAbs : Int)) : s * ((x.natAbs : Int) + (y.natAbs : Int) * t) = x + y * k := by
  have e : y * k = way * ((y.natAbs : Int) * (k.natAbs : Int)) := by
    have h1 := Int.sign_mul_natAbs y
    have h2 := Int.sign_mul_natAbs k
    calc y * k = (y.sign * y.natAbs) * (k.sign * k.natAbs) := by rw [h1, h2]
      _ = way * ((y.natAbs : Int) * (k.natAbs : Int)) := by rw [hw]; simp only [Int.mul_assoc, Int.mul_comm, Int.mul_left_comm]
  have hw1 : way = 1 ∨ way = -1 := by
    have h1 := sign_bd y
    have h2 := sign_bd k
    rcases (by omega : y.sign = -1 ∨ y.sign = 0 ∨ y.sign = 1) with a | a | a <;> rcases (by omega : k.sign = -1 ∨ k.sign = 0 ∨ k.sign = 1) with c | c | c <;> rw [a, c] at hw <;> omega
  rw [e]
  generalize (y.natAbs : Int) = Y at *
  generalize (k.natAbs : Int) = K at *
  have e2 : Y * -K = -(Y * K) := Int.mul_neg ..
  generalize x.natAbs = A at *
  rcases hs with rfl | rfl <;> rcases hw1 with rfl | rfl
  · rw [if_pos rfl] at ht; rw [ht, hx]; omega
  · rw [if_neg (by decide)] at ht; rw [ht, e2, hx]; omega
  · rw [if_neg (by decide)] at ht; rw [ht, e2, hx]; omega
  · rw [if_pos rfl] at ht; rw [ht, hx]; omega
theorem sgn_way {y k : Int} (h : y.sign * k.sign = 0) : y * k = 0 := by
  rcases Int.mul_eq_zero.mp h with e | e
  · rw [Int.sign_eq_zero_iff_zero.mp e, Int.zero_mul]
  · rw [Int.sign_eq_zero_iff_zero.mp e, Int.mul_zero]
theorem val_bd {a n m : Nat} (h : nl a n) (hm : n ≤ m) : val (dg a) m = a := val_dg (Nat.lt_of_lt_of_le h.1 (B9_mono hm))
theorem abs_add_lt {A Y w : Nat} {t : Int} (hA : A < B9 ^ w) (hY : Y < B9 ^ w) (h1 : -3000000000 ≤ t) (h2 : t ≤ 3000000000) : -(B9 ^ (w + 2) : Int) < (A : Int) + (Y : Int) * t ∧ (A : Int) + (Y : Int) * t < (B9 ^ (w + 2) : Int) := by
  have e : ((B9 ^ (w + 2) : Nat) : Int) = (B9 ^ w : Nat) * 1000000000000000000 := by
    rw [show B9 ^ (w + 2) = B9 ^ w * (B9 * B9) by rw [Nat.pow_add]; rfl, Int.natCast_mul]
    rfl
  have e' : (B9 ^ (w + 2) : Int) = ((B9 ^ (w + 2) : Nat) : Int) := by rw [Int.natCast_pow]
  rw [e', e]
  generalize B9 ^ w = P at *
  have h3 : (Y : Int) * t ≤ (Y : Int) * 3000000000 := Int.mul_le_mul_of_nonneg_left h2 (by omega)
  have h4 : (Y : Int) * (-3000000000) ≤ (Y : Int) * t := Int.mul_le_mul_of_nonneg_left h1 (by omega)
  omega

theorem add_step {A X Y P d e : Nat} {t cy v : Int} (h : (A : Int) + cy * (P : Int) = (X : Int) + (Y : Int) * t) (h0 : 0 ≤ v - v / 1000000000 * 1000000000) (hv : v = (d : Int) + (e : Int) * t + cy) : ((A + (v - v / 1000000000 * 1000000000).toNat * P : Nat) : Int) + v / 1000000000 * ((P * B9 : Nat) : Int) = ((X + d * P : Nat) : Int) + ((Y + e * P : Nat) : Int) * t := by
  have e1 : (((v - v / 1000000000 * 1000000000).toNat : Nat) : Int) = v - v / 1000000000 * 1000000000 := by omega
  have e2 : ((P * B9 : Nat) : Int) = (P : Int) * 1000000000 := by rw [Int.natCast_mul]; rfl
  rw [Int.natCast_add, Int.natCast_mul, e1, e2, Int.natCast_add, Int.natCast_mul, Int.natCast_add, Int.natCast_mul]
  generalize v / 1000000000 = r at *
  subst hv
  grind

set_option maxRecDepth 100000 in
set_option maxHeartbeats 4000000 in
theorem b_addTimes (G : xG) (l : Launch) (ad : Nat → Nat) (F : xM) (R : Nat × Nat) (d : Nat) (σ : cZ) (b c : Nat) (hb : isBg b) (hc : isBg c) (hbc : b ≠ c) (x y k : Int) (hx : Bg σ b x) (hy : Bg σ c y) (hk : k.natAbs ≤ 3000000000) (hxl : x.natAbs < B9 ^ 1000) (hyl : y.natAbs < B9 ^ 1000) : cC G l ad F R YX2_addTimes (d + 3) [.ref (ad b), .ref (ad c), .long (iL k)] σ (fun r σ' => r = none ∧ kp [b, b + 100] σ σ' ∧ Bg σ' b (x + y * k)) := by
  have hx' := hx
  have hy' := hy
  obtain ⟨n, hn, hlen, h0, h1, hdg⟩ := hx
  obtain ⟨m, hm, hlen2, g0, g1, gdg⟩ := hy
  have hn1 := nl_of_le hn hxl
  have hm1 := nl_of_le hm hyl
  obtain ⟨x1, x2, x3, x4⟩ := bg_ne hb hc hbc
  have hkt : (iL k).toInt = k := iL_t (by omega) (by omega)
  have sx := sign_bd x
  have sy := sign_bd y
  have sk := sign_bd k
  have hwb : -1 ≤ y.sign * k.sign ∧ y.sign * k.sign ≤ 1 := by rw [← Int.sign_mul]; exact sign_bd _
  refine cC.of (ls := [(0, .ref (ad b)), (1, .ref (ad c)), (2, .long (iL k))]) (by decide) (Nat.le_of_ble_eq_true rfl) rfl fun M N S hM => ?_
  have loop : ∀ (u i : Nat) (cy s way t : Int) (σ1 : cZ) (f : Nat → Nat) (M : xM) (N S : Nat), i + u = max n m + 2 → (s = 1 ∨ s = -1) → -3000000000 ≤ t → t ≤ 3000000000 → s * ((x.natAbs : Int) + (y.natAbs : Int) * t) = x + y * k → kp [b, b + 100] σ σ1 → (σ1 b).1 0 = iI s → max n m + 2 ≤ (σ1 b).2.2 1 → (∀ j, j < i → (σ1 (b + 100)).1 j = nI (f j) ∧ f j < B9) → (∀ j, i ≤ j → j < max n m + 2 → (σ1 (b + 100)).1 j = nI (dg x.natAbs j)) → -3000000001 ≤ cy → cy ≤ 3000000001 → (val f i : Int) + cy * (B9 ^ i : Nat) = (val (dg x.natAbs) i : Int) + (val (dg y.natAbs) i : Int) * t → cA G ad F R σ1 M N S → xX G l YX2_addTimes (d + 3) (cQ G ad F R (fun r σ' => r = none ∧ kp [b, b + 100] σ σ' ∧ Bg σ' b (x + y * k))) 105 [(0, .ref (ad b)), (1, .ref (ad c)), (2, .long (iL k)), (4, .int (iI way)), (5, .long (iL t)), (7, .int (nI (max n m + 2))), (8, .long (iL cy)), (10, .int (nI i))] [] M N S := by
    intro u
    induction u with
    | zero =>
      intro i cy s way t σ1 f M N S hi hs ht1 ht2 hT k1 k2 k3 k4 k5 c1 c2 hinv hM
      have hll := hM.2.2.2.1 b hb
      obtain rfl : i = max n m + 2 := by omega
      rw [val_bd hn (by omega), val_bd hm (by omega)] at hinv
      have hbd := abs_add_lt (A := x.natAbs) (Y := y.natAbs) (w := max n m) (Nat.lt_of_lt_of_le hn.1 (B9_mono (by omega))) (Nat.lt_of_lt_of_le hm.1 (B9_mono (by omega))) ht1 ht2
      have hvl := val_lt (f := f) (n := max n m + 2) (fun j hj => (k4 j hj).2)
      have hP : (B9 ^ (max n m + 2) : Int) = ((B9 ^ (max n m + 2) : Nat) : Int) := by rw [Int.natCast_pow]
      rw [hP] at hbd
      generalize hw : max n m + 2 = w at *
      have hPp := B9_pos w
      generalize hP9 : B9 ^ w = P at *
      have hcy : cy = 0 ∨ cy = -1 := by
        rcases Int.lt_or_le cy 0 with h | h
        · right
          rcases Int.lt_or_le cy (-1) with h' | h'
          · have := Int.mul_le_mul_of_nonneg_right (show cy ≤ -2 by omega) (show (0 : Int) ≤ (P : Int) by omega)
            omega
          · omega
        · left
          rcases Int.lt_or_le 0 cy with h' | h'
          · have := Int.mul_le_mul_of_nonneg_right (show (1 : Int) ≤ cy by omega) (show (0 : Int) ≤ (P : Int) by omega)
            omega
          · omega

      refine x_iload (q := 107) dX2_addTimes_105 rfl rfl ?_
      refine x_iload (q := 109) dX2_addTimes_107 rfl rfl ?_
      refine xn_icmp_ge (q := 112) 168 dX2_addTimes_109 (by decide) rfl (by omega) (by omega) (fun hc109 => ?_) (fun hc109 => absurd hc109 (by omega))
      refine x_lload (q := 170) dX2_addTimes_168 rfl rfl ?_
      refine xn_lconst (q := 171) 0 dX2_addTimes_170 rfl (by decide) ?_
      refine xi_lcmp_ge (q1 := 172) (q := 175) 181 dX2_addTimes_171 rfl dX2_addTimes_172 (by decide) rfl rfl (lN_i' _) (by omega) (by omega) (by omega) (by omega) (fun hc171 => ?_) (fun hc171 => ?_)
      · refine x_aload_n (q := 182) dX2_addTimes_181 rfl rfl ?_
        refine x_iload (q := 184) dX2_addTimes_182 rfl rfl ?_
        refine c_call (q := 187) (k := b) (As := [_]) hM (cE_big _ _ hb) imX2_trim ivX2_trim ilX2_trim mwX2_55 xciX2 dX2_addTimes_184 rfl rfl rfl (Nat.le_of_ble_eq_true rfl) ?_
        have hcm : cy = 0 := by omega
        rw [hcm] at hinv
        have t1 : (x + y * k).natAbs = val f w := by rw [← hT]; rcases hs with e | e <;> rw [e] <;> omega
        have t2 : x + y * k ≠ 0 → (σ1 b).1 0 = sg (x + y * k) := fun hne => by
          rw [← hT] at hne
          rw [k2, ← hT]
          rcases hs with e | e
          · rw [e] at hne ⊢; rw [sg_pos (by omega)]; rfl
          · rw [e] at hne ⊢; rw [sg_neg (by omega)]; rfl
        refine (b_trim G l ad F R (d + 2) σ1 b w hb (x + y * k) f k3 (fun j hj => (k4 j hj).1) (fun j hj => (k4 j hj).2) t1 t2).mono (fun x9 σ6 hp => ?_)
        obtain ⟨rfl, q1, q2, p3⟩ := hp
        intro M N S hM
        show xX G l _ (d + 3) _ _ _ _ M N S
        have kz := k1.trans q1.b
        exact x_vret rfl dX2_addTimes_187 (c_ret hM ⟨rfl, kz, p3⟩)
      · refine x_aload_n (q := 176) dX2_addTimes_175 rfl rfl ?_
        refine x_iload (q := 178) dX2_addTimes_176 rfl rfl ?_
        refine c_call (q := 181) (k := b) (As := [_]) hM (cE_big _ _ hb) imX2_turnOver ivX2_turnOver ilX2_turnOver mwX2_52 xciX2 dX2_addTimes_178 rfl rfl rfl (Nat.le_of_ble_eq_true rfl) ?_
        refine (b_turnOver G l ad F R (d + 2) σ1 b w hb f k3 (fun j hj => (k4 j hj).1) (fun j hj => (k4 j hj).2) (by rcases hcy with e | e <;> rw [e] at hinv <;> omega)).mono (fun x9 σ5 hp => ?_)
        obtain ⟨rfl, p1, p2, p4, g, p5, p6⟩ := hp
        intro M N S hM
        show xX G l _ (d + 3) _ _ _ _ M N S
        have hcm : cy = -1 := by omega
        rw [hcm] at hinv
        refine x_aload_n (q := 182) dX2_addTimes_181 rfl rfl ?_
        refine x_iload (q := 184) dX2_addTimes_182 rfl rfl ?_
        refine c_call (q := 187) (k := b) (As := [_]) hM (cE_big _ _ hb) imX2_trim ivX2_trim ilX2_trim mwX2_55 xciX2 dX2_addTimes_184 rfl rfl rfl (Nat.le_of_ble_eq_true rfl) ?_
        have t1 : (x + y * k).natAbs = val g w := by rw [← hT]; rcases hs with e | e <;> rw [e] <;> omega
        have t2 : x + y * k ≠ 0 → (σ5 b).1 0 = sg (x + y * k) := fun hne => by
          rw [p4, k2, ← hT]
          rcases hs with e | e
          · rw [e, sg_neg (by omega)]; rfl
          · rw [e, sg_pos (by omega)]; rfl
        refine (b_trim G l ad F R (d + 2) σ5 b w hb (x + y * k) g (by rw [p2]; exact k3) (fun j hj => (p5 j hj).1) (fun j hj => (p5 j hj).2) t1 t2).mono (fun x9 σ6 hp => ?_)
        obtain ⟨rfl, q1, q2, p3⟩ := hp
        intro M N S hM
        show xX G l _ (d + 3) _ _ _ _ M N S
        have kz := k1.trans (p1.trans q1.b)
        exact x_vret rfl dX2_addTimes_187 (c_ret hM ⟨rfl, kz, p3⟩)

    | succ u ih =>
      intro i cy s way t σ1 f M N S hi hs ht1 ht2 hT k1 k2 k3 k4 k5 c1 c2 hinv hM
      have hll := hM.2.2.2.1 b hb
      have hyc : Bg σ1 c y := k1.bg x1 x2 hy'
      have hd1 : dg x.natAbs i < 1000000000 := dg_lt _ _
      have hd2 : dg y.natAbs i < 1000000000 := dg_lt _ _
      have m1 : (dg y.natAbs i : Int) * t ≤ (dg y.natAbs i : Int) * 3000000000 := Int.mul_le_mul_of_nonneg_left ht2 (by omega)
      have m2 : (dg y.natAbs i : Int) * (-3000000000) ≤ (dg y.natAbs i : Int) * t := Int.mul_le_mul_of_nonneg_left ht1 (by omega)

      refine x_iload (q := 107) dX2_addTimes_105 rfl rfl ?_
      refine x_iload (q := 109) dX2_addTimes_107 rfl rfl ?_
      refine xn_icmp_ge (q := 112) 168 dX2_addTimes_109 (by decide) rfl (by omega) (by omega) (fun hc109 => absurd hc109 (by omega)) (fun hc109 => ?_)
      refine x_aload_n (q := 113) dX2_addTimes_112 rfl rfl ?_
      refine c_get (q := 116) (k := b) (f := 2) hM (cE_big _ _ hb) xclX2 fwX2_9 (by decide) dX2_addTimes_113 rfl rfl ?_
      refine x_iload (q := 118) dX2_addTimes_116 rfl rfl ?_
      refine c_limb (q := 119) hM hb dX2_addTimes_118 rfl (by omega) ?_
      refine x_topi (y := nI (dg x.natAbs i)) (by exact k5 i (Nat.le_refl _) (by omega)) ?_
      refine xn_i2l (q := 120) dX2_addTimes_119 rfl (by omega) ?_
      refine x_aload_n (q := 121) dX2_addTimes_120 rfl rfl ?_
      refine x_iload (q := 123) dX2_addTimes_121 rfl rfl ?_
      refine c_call (q := 126) (k := c) (As := [_]) hM (cE_big _ _ hc) imX2_limbAt ivX2_limbAt ilX2_limbAt mwX2_17 xciX2 dX2_addTimes_123 rfl rfl rfl (Nat.le_of_ble_eq_true rfl) ?_
      refine (b_limbAt G l ad F R (d + 2) σ1 c i hc y hyc (by omega)).mono (fun x9 σ9' hp => ?_)
      obtain ⟨rfl, e9⟩ := hp
      intro M N S hM
      rw [e9] at hM; clear e9 σ9'
      show xX G l _ (d + 3) _ _ _ _ M N S
      refine x_lload (q := 128) dX2_addTimes_126 rfl rfl ?_
      refine xi_lmul (q := 129) dX2_addTimes_128 rfl (lN_i' _) rfl ?_
      refine xi_ladd (q := 130) dX2_addTimes_129 rfl (lN_i' _) rfl ?_
      refine x_lload (q := 132) dX2_addTimes_130 rfl rfl ?_
      refine xi_ladd (q := 133) dX2_addTimes_132 rfl rfl rfl ?_
      refine x_lstore (q := 135) (ls' := [(0, _), (1, _), (2, _), (4, _), (5, _), (7, _), (8, _), (10, _), (11, _)]) [1, 2, 3, 4, 5, 6, 7, 8, 0] dX2_addTimes_133 rfl (by decide) rfl ?_
      refine x_lload (q := 137) dX2_addTimes_135 rfl rfl ?_
      refine xn_ldc2 (q := 140) 1000000000 dX2_addTimes_137 rfl cwX2_21 ?_
      refine c_callS (q := 143) (As := [_, _]) hM imJ9_floorDiv_f86c9 isJ9_floorDiv_f86c9 mwX2_48 dX2_addTimes_140 rfl rfl rfl (Nat.le_of_ble_eq_true rfl) ?_
      refine (cC.of_x (fun M N S => j_floorDiv G l (d + 2) M N S _ (by omega) (by omega))).mono (fun x9 σ9' hp => ?_)
      obtain ⟨rfl, e9⟩ := hp
      intro M N S hM
      rw [e9] at hM; clear e9 σ9'
      show xX G l _ (d + 3) _ _ _ _ M N S
      refine x_lstore (q := 145) (ls' := [(0, _), (1, _), (2, _), (4, _), (5, _), (7, _), (8, _), (10, _), (11, _)]) [1, 2, 3, 4, 5, 6, 0, 7, 8] dX2_addTimes_143 rfl (by decide) rfl ?_
      refine x_aload_n (q := 146) dX2_addTimes_145 rfl rfl ?_
      refine c_get (q := 149) (k := b) (f := 2) hM (cE_big _ _ hb) xclX2 fwX2_9 (by decide) dX2_addTimes_146 rfl rfl ?_
      refine x_iload (q := 151) dX2_addTimes_149 rfl rfl ?_
      refine x_lload (q := 153) dX2_addTimes_151 rfl rfl ?_
      refine x_lload (q := 155) dX2_addTimes_153 rfl rfl ?_
      refine xn_ldc2 (q := 158) 1000000000 dX2_addTimes_155 rfl cwX2_21 ?_
      refine xi_lmul (q := 159) dX2_addTimes_158 rfl rfl (lN_i' _) ?_
      refine xi_lsub (q := 160) dX2_addTimes_159 rfl rfl rfl ?_
      refine xi_l2i (q := 161) dX2_addTimes_160 rfl rfl (by omega) (by omega) ?_
      refine x_topi (y := nI (((((dg x.natAbs i : Nat) : Int) + ((dg y.natAbs i : Nat) : Int) * t + cy) - (((dg x.natAbs i : Nat) : Int) + ((dg y.natAbs i : Nat) : Int) * t + cy) / 1000000000 * 1000000000).toNat)) (iI_nat (by omega)) ?_
      refine c_limbst (q := 162) hM hb dX2_addTimes_161 rfl (by omega) (fun M σ161 a161 e161 hM => ?_)
      refine xn_iinc (q := 165) (ls' := [(0, _), (1, _), (2, _), (4, _), (5, _), (7, _), (8, _), (10, _), (11, _)]) [1, 2, 3, 4, 5, 6, 7, 0, 8] 1 dX2_addTimes_162 rfl rfl (by decide) (by decide) rfl ?_
      refine x_goto 105 dX2_addTimes_165 (by decide) ?_
      refine x_ls (ls' := [(0, _), (1, _), (2, _), (4, _), (5, _), (7, _), (8, _), (10, _)]) [0, 1, 2, 3, 4, 5, 6, 7] rfl ?_
      refine ih (i + 1) ((((dg x.natAbs i : Nat) : Int) + ((dg y.natAbs i : Nat) : Int) * t + cy) / 1000000000) s way t σ161 (mu f i (((((dg x.natAbs i : Nat) : Int) + ((dg y.natAbs i : Nat) : Int) * t + cy) - (((dg x.natAbs i : Nat) : Int) + ((dg y.natAbs i : Nat) : Int) * t + cy) / 1000000000 * 1000000000).toNat)) M N S (by omega) hs ht1 ht2 hT (k1.trans a161.l) (by rw [a161 b (by simp)]; exact k2) (by rw [a161 b (by simp)]; exact k3) (fun j hj => ?_) (fun j h1 h2 => ?_) (by omega) (by omega) ?_ hM
      · rw [e161]
        by_cases ej : j = i
        · rw [ej, mu_s]; simp only [upd, if_true]; exact ⟨trivial, by show _ < 1000000000; omega⟩
        · rw [mu_n ej]; simp only [upd, if_neg ej]; exact k4 j (by omega)
      · rw [e161]; simp only [upd]; rw [if_neg (by omega)]; exact k5 j (by omega) h2
      · rw [val_upd, val_succ, val_succ, B9_succ]
        exact add_step hinv (by omega) rfl

  have s76 : ∀ (s way t : Int) (σ1 : cZ) (M : xM) (N S : Nat), (s = 1 ∨ s = -1) → -3000000000 ≤ t → t ≤ 3000000000 → s * ((x.natAbs : Int) + (y.natAbs : Int) * t) = x + y * k → kp [b] σ σ1 → (σ1 b).2 = (σ b).2 → (σ1 b).1 0 = iI s → (σ1 b).1 1 = nI n → cA G ad F R σ1 M N S → xX G l YX2_addTimes (d + 3) (cQ G ad F R (fun r σ' => r = none ∧ kp [b, b + 100] σ σ' ∧ Bg σ' b (x + y * k))) 76 [(0, .ref (ad b)), (1, .ref (ad c)), (2, .long (iL k)), (4, .int (iI way)), (5, .long (iL (k.natAbs : Int)))] [.long (iL t)] M N S := by
    intro s way t σ1 M N S hs ht1 ht2 hT k1 k2 k3 k4 hM
    have hcc : σ1 c = σ c := k1 c (by simp; omega)
    have hl1 : σ1 (b + 100) = σ (b + 100) := k1 _ (by simp)

    refine x_lstore (q := 78) (ls' := [(0, _), (1, _), (2, _), (4, _), (5, _)]) [1, 2, 3, 4, 0] dX2_addTimes_76 rfl (by decide) rfl ?_
    refine x_aload_n (q := 79) dX2_addTimes_78 rfl rfl ?_
    refine c_get (q := 82) (k := b) (f := 1) hM (cE_big _ _ hb) xclX2 fwX2_13 (by decide) dX2_addTimes_79 rfl rfl ?_
    refine x_topi (y := nI n) (by exact k4) ?_
    refine x_aload_n (q := 83) dX2_addTimes_82 rfl rfl ?_
    refine c_get (q := 86) (k := c) (f := 1) hM (cE_big _ _ hc) xclX2 fwX2_13 (by decide) dX2_addTimes_83 rfl rfl ?_
    refine x_topi (y := nI m) (by rw [hcc, g1]) ?_
    refine c_callS (q := 89) (As := [_, _]) hM imJ9_max_7cf53 isJ9_max_7cf53 mwX2_42 dX2_addTimes_86 rfl rfl rfl (Nat.le_of_ble_eq_true rfl) ?_
    refine (cC.of_x (fun M N S => j_max G l (d + 2) M N S n m (by omega) (by omega))).mono (fun x9 σ9' hp => ?_)
    obtain ⟨rfl, e9⟩ := hp
    intro M N S hM
    rw [e9] at hM; clear e9 σ9'
    show xX G l _ (d + 3) _ _ _ _ M N S
    refine xn_iconst (q := 90) 2 dX2_addTimes_89 rfl (by decide) ?_
    refine xn_iadd (q := 91) dX2_addTimes_90 rfl ?_
    refine x_istore (q := 93) (ls' := [(0, _), (1, _), (2, _), (4, _), (5, _), (7, _)]) [1, 2, 3, 4, 5, 0] dX2_addTimes_91 rfl (by decide) rfl ?_
    refine x_aload_n (q := 94) dX2_addTimes_93 rfl rfl ?_
    refine x_iload (q := 96) dX2_addTimes_94 rfl rfl ?_
    refine c_call (q := 99) (k := b) (As := [_]) hM (cE_big _ _ hb) imX2_makeRoom ivX2_makeRoom ilX2_makeRoom mwX2_26 xciX2 dX2_addTimes_96 rfl rfl rfl (Nat.le_of_ble_eq_true rfl) ?_
    refine (b_makeRoom G l ad F R d σ1 b n (max n m + 2) hb (by omega) (by rw [k2]; exact hlen) k4).mono (fun x9 σ5 hp => ?_)
    obtain ⟨rfl, p1, p2, p4, p5, p6, p7⟩ := hp
    intro M N S hM
    show xX G l _ (d + 3) _ _ _ _ M N S
    refine xn_lconst (q := 100) 0 dX2_addTimes_99 rfl (by decide) ?_
    refine x_topl (y := iL 0) rfl ?_
    refine x_lstore (q := 102) (ls' := [(0, _), (1, _), (2, _), (4, _), (5, _), (7, _), (8, _)]) [1, 2, 3, 4, 5, 6, 0] dX2_addTimes_100 rfl (by decide) rfl ?_
    refine xn_iconst (q := 103) 0 dX2_addTimes_102 rfl (by decide) ?_
    refine x_istore (q := 105) (ls' := [(0, _), (1, _), (2, _), (4, _), (5, _), (7, _), (8, _), (10, _)]) [1, 2, 3, 4, 5, 6, 7, 0] dX2_addTimes_103 rfl (by decide) rfl ?_
    have hq5 : ∀ j, 0 ≤ j → j < max n m + 2 → (σ5 (b + 100)).1 j = nI (dg x.natAbs j) := fun j _ h2 => by
      by_cases hj : j < n
      · rw [p6 j hj, hl1]; exact hdg j hj
      · rw [p7 j (by omega) h2, dg_hi (Nat.lt_of_lt_of_le hn.1 (B9_mono (by omega)))]
    exact loop (max n m + 2) 0 0 s way t σ5 (fun _ => 0) M N S (by omega) hs ht1 ht2 hT (k1.b.trans p1) (by rw [p2]; exact k3) p4 (fun j hj => absurd hj (Nat.not_lt_zero j)) hq5 (by decide) (by decide) (by simp [val]) hM

  have s45 : ∀ (s way : Int) (σ1 : cZ) (M : xM) (N S : Nat), (s = 1 ∨ s = -1) → x = s * x.natAbs → way = y.sign * k.sign → way ≠ 0 → kp [b] σ σ1 → (σ1 b).2 = (σ b).2 → (σ1 b).1 0 = iI s → (σ1 b).1 1 = nI n → cA G ad F R σ1 M N S → xX G l YX2_addTimes (d + 3) (cQ G ad F R (fun r σ' => r = none ∧ kp [b, b + 100] σ σ' ∧ Bg σ' b (x + y * k))) 45 [(0, .ref (ad b)), (1, .ref (ad c)), (2, .long (iL k)), (4, .int (iI way))] [] M N S := by
    intro s way σ1 M N S hs hxs hw hw0 k1 k2 k3 k4 hM
    have hsb : -1 ≤ s ∧ s ≤ 1 := by omega
    rw [← hw] at hwb
    have s57 : ∀ (M : xM) (N S : Nat), cA G ad F R σ1 M N S → xX G l YX2_addTimes (d + 3) (cQ G ad F R (fun r σ' => r = none ∧ kp [b, b + 100] σ σ' ∧ Bg σ' b (x + y * k))) 57 [(0, .ref (ad b)), (1, .ref (ad c)), (2, .long (iL k)), (4, .int (iI way))] [.long (iL (k.natAbs : Int))] M N S := by
      intro M N S hM

      refine x_lstore (q := 59) (ls' := [(0, _), (1, _), (2, _), (4, _), (5, _)]) [1, 2, 3, 4, 0] dX2_addTimes_57 rfl (by decide) rfl ?_
      refine x_aload_n (q := 60) dX2_addTimes_59 rfl rfl ?_
      refine c_get (q := 63) (k := b) (f := 0) hM (cE_big _ _ hb) xclX2 fwX2_23 (by decide) dX2_addTimes_60 rfl rfl ?_
      refine x_topi (y := iI s) (by exact k3) ?_
      refine x_iload (q := 65) dX2_addTimes_63 rfl rfl ?_
      refine xi_icmp_ne (q := 68) 73 dX2_addTimes_65 (by decide) rfl rfl rfl (by omega) (by omega) (by omega) (by omega) (fun hc65 => ?_) (fun hc65 => ?_)
      · refine x_lload (q := 75) dX2_addTimes_73 rfl rfl ?_
        refine xi_lneg (q := 76) dX2_addTimes_75 rfl rfl ?_
        exact s76 s way (-(k.natAbs : Int)) σ1 M N S hs (by omega) (by omega) (addQ hs hxs hw hw0 (by rw [if_neg hc65])) k1 k2 k3 k4 hM
      · refine x_lload (q := 70) dX2_addTimes_68 rfl rfl ?_
        refine x_goto 76 dX2_addTimes_70 (by decide) ?_
        exact s76 s way (k.natAbs : Int) σ1 M N S hs (by omega) (by omega) (addQ hs hxs hw hw0 (by rw [if_pos hc65])) k1 k2 k3 k4 hM

    refine x_lload_n (q := 46) dX2_addTimes_45 rfl rfl ?_
    refine xn_lconst (q := 47) 0 dX2_addTimes_46 rfl (by decide) ?_
    refine xi_lcmp_ge (q1 := 48) (q := 51) 56 dX2_addTimes_47 rfl dX2_addTimes_48 (by decide) rfl rfl (lN_i' _) (by omega) (by omega) (by omega) (by omega) (fun hc47 => ?_) (fun hc47 => ?_)
    · refine x_lload_n (q := 57) dX2_addTimes_56 rfl rfl ?_
      refine x_topl (y := iL (k.natAbs : Int)) (by congr 1; omega) ?_
      exact s57 M N S hM
    · refine x_lload_n (q := 52) dX2_addTimes_51 rfl rfl ?_
      refine xi_lneg (q := 53) dX2_addTimes_52 rfl rfl ?_
      refine x_goto 57 dX2_addTimes_53 (by decide) ?_
      refine x_topl (y := iL (k.natAbs : Int)) (by congr 1; omega) ?_
      exact s57 M N S hM

  have s18 : ∀ (way : Int) (M : xM) (N S : Nat), (k ≠ 0 → way = y.sign * k.sign) → -1 ≤ way → way ≤ 1 → (way = 0 → y * k = 0) → cA G ad F R σ M N S → xX G l YX2_addTimes (d + 3) (cQ G ad F R (fun r σ' => r = none ∧ kp [b, b + 100] σ σ' ∧ Bg σ' b (x + y * k))) 18 [(0, .ref (ad b)), (1, .ref (ad c)), (2, .long (iL k))] [.int (iI way)] M N S := by
    intro way M N S hw hw1 hw2 hw0 hM

    refine x_istore (q := 20) (ls' := [(0, _), (1, _), (2, _), (4, _)]) [1, 2, 3, 0] dX2_addTimes_18 rfl (by decide) rfl ?_
    refine x_iload (q := 22) dX2_addTimes_20 rfl rfl ?_
    refine xi_if_eq (q := 25) 31 dX2_addTimes_22 (by decide) rfl rfl (by omega) (by omega) (fun hc22 => ?_) (fun hc22 => ?_)
    · exact x_vret rfl dX2_addTimes_31 (c_ret hM ⟨rfl, kp.rfl', by rw [hw0 hc22, Int.add_zero]; exact hx'⟩)
    · refine x_lload_n (q := 26) dX2_addTimes_25 rfl rfl ?_
      refine xn_lconst (q := 27) 0 dX2_addTimes_26 rfl (by decide) ?_
      refine xi_lcmp_ne (q1 := 28) (q := 31) 32 dX2_addTimes_27 rfl dX2_addTimes_28 (by decide) rfl rfl (lN_i' _) (by omega) (by omega) (by omega) (by omega) (fun hc27 => ?_) (fun hc27 => ?_)
      · refine x_aload_n (q := 33) dX2_addTimes_32 rfl rfl ?_
        refine c_get (q := 36) (k := b) (f := 0) hM (cE_big _ _ hb) xclX2 fwX2_23 (by decide) dX2_addTimes_33 rfl rfl ?_
        refine x_topi (y := iI x.sign) (by rw [h0]; exact sg_iI x) ?_
        refine xi_if_ne (q := 39) 45 dX2_addTimes_36 (by decide) rfl rfl (by omega) (by omega) (fun hc36 => ?_) (fun hc36 => ?_)
        · exact s45 x.sign way σ M N S (by omega) (Int.sign_mul_natAbs x).symm (hw (by omega)) hc22 kp.rfl' rfl (by rw [h0]; exact sg_iI x) h1 hM
        · refine x_aload_n (q := 40) dX2_addTimes_39 rfl rfl ?_
          refine x_iload (q := 42) dX2_addTimes_40 rfl rfl ?_
          refine c_puti (q := 45) (k := b) (f := 0) hM (cE_big _ _ hb) (by rw [cE_big _ _ hb, mu_s]; rfl) xclX2 fwX2_23 (by decide) rfl rfl (Nat.le_of_ble_eq_true rfl) dX2_addTimes_42 rfl rfl rfl (fun M σ42 a42 e42 b42 hM => ?_)
          have hx0 : x = 0 := Int.sign_eq_zero_iff_zero.mp (by omega)
          exact s45 way way σ42 M N S (by omega) (by rw [hx0]; simp) (hw (by omega)) hc22 a42 b42 (by rw [e42, mu_s]) (by rw [e42, mu_n (by decide)]; exact h1) hM
      · exact x_vret rfl dX2_addTimes_31 (c_ret hM ⟨rfl, kp.rfl', by rw [show k = 0 by omega, Int.mul_zero, Int.add_zero]; exact hx'⟩)

  refine x_lload_n (q := 1) dX2_addTimes_0 rfl rfl ?_
  refine xn_lconst (q := 2) 0 dX2_addTimes_1 rfl (by decide) ?_
  refine xi_lcmp_ge (q1 := 3) (q := 6) 14 dX2_addTimes_2 rfl dX2_addTimes_3 (by decide) rfl rfl (lN_i' _) (by omega) (by omega) (by omega) (by omega) (fun hc2 => ?_) (fun hc2 => ?_)
  · refine x_aload_n (q := 15) dX2_addTimes_14 rfl rfl ?_
    refine c_get (q := 18) (k := c) (f := 0) hM (cE_big _ _ hc) xclX2 fwX2_23 (by decide) dX2_addTimes_15 rfl rfl ?_
    refine x_topi (y := iI y.sign) (by rw [g0]; exact sg_iI y) ?_
    exact s18 y.sign M N S (fun e => by rw [Int.sign_eq_one_of_pos (show 0 < k by omega)]; omega) (by omega) (by omega) (fun e => by rw [Int.sign_eq_zero_iff_zero.mp e, Int.zero_mul]) hM
  · refine x_aload_n (q := 7) dX2_addTimes_6 rfl rfl ?_
    refine c_get (q := 10) (k := c) (f := 0) hM (cE_big _ _ hc) xclX2 fwX2_23 (by decide) dX2_addTimes_7 rfl rfl ?_
    refine x_topi (y := iI y.sign) (by rw [g0]; exact sg_iI y) ?_
    refine xi_ineg (q := 11) dX2_addTimes_10 rfl rfl ?_
    refine x_goto 18 dX2_addTimes_11 (by decide) ?_
    exact s18 (-y.sign) M N S (fun _ => by rw [Int.sign_eq_neg_one_of_neg hc2]; omega) (by omega) (by omega) (fun e => by rw [Int.sign_eq_zero_iff_zero.mp (show y.sign = 0 by omega), Int.zero_mul]) hM

end XA3
