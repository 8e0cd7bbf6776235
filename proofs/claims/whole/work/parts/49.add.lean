section XA2
theorem iI_nat {z : Int} (h : 0 ≤ z) : iI z = nI z.toNat := by
  rw [nI_i]
  congr 1
  omega
theorem val_succ (f : Nat → Nat) (n : Nat) : val f (n + 1) = val f n + f n * B9 ^ n := rfl
theorem val_upd {f : Nat → Nat} {i x : Nat} : val (mu f i x) (i + 1) = val f i + x * B9 ^ i := by
  rw [val_succ, val_congr (g := f) (fun j hj => mu_n (by omega)), mu_s]
theorem mul_B9 (p : Nat) : p * B9 = 999999999 * p + p := by show p * 1000000000 = _; omega

set_option maxRecDepth 100000 in
set_option maxHeartbeats 4000000 in
theorem b_turnOver (G : xG) (l : Launch) (ad : Nat → Nat) (F : xM) (R : Nat × Nat) (d : Nat) (σ : cZ) (b w : Nat) (hb : isBg b) (f : Nat → Nat) (hw : w ≤ (σ b).2.2 1) (hlim : ∀ j, j < w → (σ (b + 100)).1 j = nI (f j)) (hf : ∀ j, j < w → f j < B9) (hpos : 0 < val f w) : cC G l ad F R YX2_turnOver d [.ref (ad b), .int (nI w)] σ (fun r σ' => r = none ∧ kp [b, b + 100] σ σ' ∧ (σ' b).2 = (σ b).2 ∧ (σ' b).1 0 = -(σ b).1 0 ∧ ∃ g : Nat → Nat, (∀ j, j < w → (σ' (b + 100)).1 j = nI (g j) ∧ g j < B9) ∧ val g w + val f w = B9 ^ w) := by
  refine cC.of (ls := [(0, .ref (ad b)), (1, .int (nI w))]) (by decide) (Nat.le_of_ble_eq_true rfl) rfl fun M N S hM => ?_
  have loop : ∀ (u i cy : Nat) (σ1 : cZ) (M : xM) (N S : Nat) (g : Nat → Nat), i + u = w → cy ≤ 1 → kp [b + 100] σ σ1 → (∀ j, j < i → (σ1 (b + 100)).1 j = nI (g j) ∧ g j < B9) → (∀ j, i ≤ j → j < w → (σ1 (b + 100)).1 j = nI (f j)) → val g i + cy * B9 ^ i + val f i = B9 ^ i → cA G ad F R σ1 M N S → xX G l YX2_turnOver d (cQ G ad F R (fun r σ' => r = none ∧ kp [b, b + 100] σ σ' ∧ (σ' b).2 = (σ b).2 ∧ (σ' b).1 0 = -(σ b).1 0 ∧ ∃ g : Nat → Nat, (∀ j, j < w → (σ' (b + 100)).1 j = nI (g j) ∧ g j < B9) ∧ val g w + val f w = B9 ^ w)) 5 [(0, .ref (ad b)), (1, .int (nI w)), (2, .long (lN cy)), (4, .int (nI i))] [] M N S := by
    intro u
    induction u with
    | zero =>
      intro i cy σ1 M N S g hi hcy k1 k2 k3 k4 hM
      have hll := hM.2.2.2.1 b hb
      have hσ : σ1 b = σ b := k1 b (by simp)
      rw [hσ] at hll
      obtain rfl : i = w := by omega
      have hcy0 : cy * B9 ^ i = 0 := by
        rcases Nat.le_one_iff_eq_zero_or_eq_one.mp hcy with e | e
        · rw [e, Nat.zero_mul]
        · rw [e] at k4; omega

      refine x_iload (q := 7) dX2_turnOver_5 rfl rfl ?_
      refine x_iload_n (q := 8) dX2_turnOver_7 rfl rfl ?_
      refine xn_icmp_ge (q := 11) 68 dX2_turnOver_8 (by decide) rfl (by omega) (by omega) (fun hc8 => ?_) (fun hc8 => absurd hc8 (by omega))
      refine x_aload_n (q := 69) dX2_turnOver_68 rfl rfl ?_
      refine x_aload_n (q := 70) dX2_turnOver_69 rfl rfl ?_
      refine c_get (q := 73) (k := b) (f := 0) hM (cE_big _ _ hb) xclX2 fwX2_23 (by decide) dX2_turnOver_70 rfl rfl ?_
      refine x_ineg (q := 74) dX2_turnOver_73 rfl ?_
      refine c_puti (q := 77) (k := b) (f := 0) hM (cE_big _ _ hb) (by rw [cE_big _ _ hb, mu_s]; rfl) xclX2 fwX2_23 (by decide) rfl rfl (Nat.le_of_ble_eq_true rfl) dX2_turnOver_74 rfl rfl rfl (fun M σ74 a74 e74 b74 hM => ?_)
      exact x_vret rfl dX2_turnOver_77 (c_ret hM ⟨rfl, k1.l.trans a74.b, by rw [b74, hσ], by rw [e74, mu_s, hσ], g, fun j hj => by rw [a74 _ (by simp)]; exact k2 j hj, by omega⟩)

    | succ u ih =>
      intro i cy σ1 M N S g hi hcy k1 k2 k3 k4 hM
      have hll := hM.2.2.2.1 b hb
      have hσ : σ1 b = σ b := k1 b (by simp)
      rw [hσ] at hll
      have hfi : f i < 1000000000 := hf i (by omega)
      have hB : B9 = 1000000000 := rfl
      have next : ∀ (cy' x : Nat) (σ2 : cZ) (M : xM), cy' ≤ 1 → kp [b + 100] σ1 σ2 → (σ2 (b + 100)).1 = upd (σ1 (b + 100)).1 i (nI x) → x < B9 → cy' * B9 + x + f i = 999999999 + cy → cA G ad F R σ2 M N S → xX G l YX2_turnOver d (cQ G ad F R (fun r σ' => r = none ∧ kp [b, b + 100] σ σ' ∧ (σ' b).2 = (σ b).2 ∧ (σ' b).1 0 = -(σ b).1 0 ∧ ∃ g : Nat → Nat, (∀ j, j < w → (σ' (b + 100)).1 j = nI (g j) ∧ g j < B9) ∧ val g w + val f w = B9 ^ w)) 5 [(0, .ref (ad b)), (1, .int (nI w)), (2, .long (lN cy')), (4, .int (nI (i + 1)))] [] M N S := by
        intro cy' x σ2 M hc' a e hx hs hM
        refine ih (i + 1) cy' σ2 M N S (mu g i x) (by omega) hc' (k1.trans a) (fun j hj => ?_) (fun j h1 h2 => ?_) ?_ hM
        · rw [e]
          by_cases ej : j = i
          · rw [ej, mu_s]; simp only [upd, if_true]; exact ⟨trivial, hx⟩
          · rw [mu_n ej]; simp only [upd, if_neg ej]; exact k2 j (by omega)
        · rw [e]; simp only [upd]; rw [if_neg (by omega)]; exact k3 j (by omega) h2
        · rw [val_upd, val_succ, B9_succ]
          have h1 : (cy' * B9 + x + f i) * B9 ^ i = (999999999 + cy) * B9 ^ i := by rw [hs]
          rw [Nat.add_mul, Nat.add_mul, Nat.add_mul, Nat.mul_assoc] at h1
          have h2 := mul_B9 (B9 ^ i)
          rw [Nat.mul_comm B9 (B9 ^ i)] at h1
          omega

      refine x_iload (q := 7) dX2_turnOver_5 rfl rfl ?_
      refine x_iload_n (q := 8) dX2_turnOver_7 rfl rfl ?_
      refine xn_icmp_ge (q := 11) 68 dX2_turnOver_8 (by decide) rfl (by omega) (by omega) (fun hc8 => absurd hc8 (by omega)) (fun hc8 => ?_)
      refine xn_ldc2 (q := 14) 999999999 dX2_turnOver_11 rfl cwX2_80 ?_
      refine x_aload_n (q := 15) dX2_turnOver_14 rfl rfl ?_
      refine c_get (q := 18) (k := b) (f := 2) hM (cE_big _ _ hb) xclX2 fwX2_9 (by decide) dX2_turnOver_15 rfl rfl ?_
      refine x_iload (q := 20) dX2_turnOver_18 rfl rfl ?_
      refine c_limb (q := 21) hM hb dX2_turnOver_20 rfl (by rw [hσ]; omega) ?_
      refine x_topi (y := nI (f i)) (by exact k3 i (Nat.le_refl _) (by omega)) ?_
      refine xn_i2l (q := 22) dX2_turnOver_21 rfl (by omega) ?_
      refine xn_lsub (q := 23) dX2_turnOver_22 rfl (by omega) ?_
      refine x_lload_n (q := 24) dX2_turnOver_23 rfl rfl ?_
      refine xn_ladd (q := 25) dX2_turnOver_24 rfl ?_
      refine x_lstore (q := 27) (ls' := [(0, _), (1, _), (2, _), (4, _), (5, _)]) [1, 2, 3, 4, 0] dX2_turnOver_25 rfl (by decide) rfl ?_
      refine x_lload (q := 29) dX2_turnOver_27 rfl rfl ?_
      refine xn_ldc2 (q := 32) 1000000000 dX2_turnOver_29 rfl cwX2_21 ?_
      refine xn_lcmp_lt (q1 := 33) (q := 36) 40 dX2_turnOver_32 rfl dX2_turnOver_33 (by decide) rfl (by omega) (by omega) (fun hc32 => ?_) (fun hc32 => ?_)
      · refine xn_lconst (q := 41) 0 dX2_turnOver_40 rfl (by decide) ?_
        refine x_lstore_n (q := 42) (ls' := [(0, _), (1, _), (2, _), (4, _), (5, _)]) [1, 2, 0, 3, 4] dX2_turnOver_41 rfl (by decide) rfl ?_
        refine x_aload_n (q := 43) dX2_turnOver_42 rfl rfl ?_
        refine c_get (q := 46) (k := b) (f := 2) hM (cE_big _ _ hb) xclX2 fwX2_9 (by decide) dX2_turnOver_43 rfl rfl ?_
        refine x_iload (q := 48) dX2_turnOver_46 rfl rfl ?_
        refine x_lload_n (q := 49) dX2_turnOver_48 rfl rfl ?_
        refine xn_lconst (q := 50) 0 dX2_turnOver_49 rfl (by decide) ?_
        refine xn_lcmp_le (q1 := 51) (q := 54) 58 dX2_turnOver_50 rfl dX2_turnOver_51 (by decide) rfl (by omega) (by omega) (fun hc50 => ?_) (fun hc50 => absurd hc50 (by omega))
        refine x_lload (q := 60) dX2_turnOver_58 rfl rfl ?_
        refine xn_l2i (q := 61) dX2_turnOver_60 rfl ?_
        refine c_limbst (q := 62) hM hb dX2_turnOver_61 rfl (by rw [hσ]; omega) (fun M σ61 a61 e61 hM => ?_)
        refine xn_iinc (q := 65) (ls' := [(0, _), (1, _), (2, _), (4, _), (5, _)]) [1, 2, 3, 0, 4] 1 dX2_turnOver_62 rfl rfl (by decide) (by decide) rfl ?_
        refine x_goto 5 dX2_turnOver_65 (by decide) ?_
        refine x_ls (ls' := [(0, _), (1, _), (2, _), (4, _)]) [0, 1, 2, 3] rfl ?_
        have hq0 : 0 * B9 + (999999999 - f i + cy) + f i = 999999999 + cy := by
          clear k4 k3 k2 ih next hM; generalize B9 = q; rw [Nat.zero_mul]; omega
        exact next 0 (999999999 - f i + cy) σ61 M (by decide) a61 e61 (by omega) (hq0) hM
      · refine xn_lconst (q := 37) 1 dX2_turnOver_36 rfl (by decide) ?_
        refine x_goto 41 dX2_turnOver_37 (by decide) ?_
        refine x_lstore_n (q := 42) (ls' := [(0, _), (1, _), (2, _), (4, _), (5, _)]) [1, 2, 0, 3, 4] dX2_turnOver_41 rfl (by decide) rfl ?_
        refine x_aload_n (q := 43) dX2_turnOver_42 rfl rfl ?_
        refine c_get (q := 46) (k := b) (f := 2) hM (cE_big _ _ hb) xclX2 fwX2_9 (by decide) dX2_turnOver_43 rfl rfl ?_
        refine x_iload (q := 48) dX2_turnOver_46 rfl rfl ?_
        refine x_lload_n (q := 49) dX2_turnOver_48 rfl rfl ?_
        refine xn_lconst (q := 50) 0 dX2_turnOver_49 rfl (by decide) ?_
        refine xn_lcmp_le (q1 := 51) (q := 54) 58 dX2_turnOver_50 rfl dX2_turnOver_51 (by decide) rfl (by omega) (by omega) (fun hc50 => absurd hc50 (by omega)) (fun hc50 => ?_)
        refine xn_lconst (q := 55) 0 dX2_turnOver_54 rfl (by decide) ?_
        refine x_goto 60 dX2_turnOver_55 (by decide) ?_
        refine xn_l2i (q := 61) dX2_turnOver_60 rfl ?_
        refine c_limbst (q := 62) hM hb dX2_turnOver_61 rfl (by rw [hσ]; omega) (fun M σ61 a61 e61 hM => ?_)
        refine xn_iinc (q := 65) (ls' := [(0, _), (1, _), (2, _), (4, _), (5, _)]) [1, 2, 3, 0, 4] 1 dX2_turnOver_62 rfl rfl (by decide) (by decide) rfl ?_
        refine x_goto 5 dX2_turnOver_65 (by decide) ?_
        refine x_ls (ls' := [(0, _), (1, _), (2, _), (4, _)]) [0, 1, 2, 3] rfl ?_
        exact next 1 (0) σ61 M (by decide) a61 e61 (by omega) (by omega) hM

  refine xn_lconst (q := 1) 1 dX2_turnOver_0 rfl (by decide) ?_
  refine x_lstore_n (q := 2) (ls' := [(0, _), (1, _), (2, _)]) [1, 2, 0] dX2_turnOver_1 rfl (by decide) rfl ?_
  refine xn_iconst (q := 3) 0 dX2_turnOver_2 rfl (by decide) ?_
  refine x_istore (q := 5) (ls' := [(0, _), (1, _), (2, _), (4, _)]) [1, 2, 3, 0] dX2_turnOver_3 rfl (by decide) rfl ?_
  exact loop w 0 1 σ M N S (fun _ => 0) (by omega) (by decide) kp.rfl' (fun j hj => absurd hj (Nat.not_lt_zero j)) (fun j _ h2 => hlim j h2) rfl hM

end XA2
