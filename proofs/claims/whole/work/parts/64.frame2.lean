section XB8
def scP (c : mCf) : Nat → Nat
  | 0 => 1
  | k + 1 => scP c k / Nat.gcd (scP c k) (c.L k) * c.L k
def okL (c : mCf) : Prop := c.m ≤ 3 ∧ ∀ k, k < 3 → (1 ≤ c.L k ∧ c.L k ≤ 12) ∧ 1 ≤ c.E k ∧ c.E k ≤ 12
theorem scP_ok {c : mCf} (h : okL c) : ∀ k, k ≤ 3 → 1 ≤ scP c k ∧ scP c k ≤ 12 ^ k
  | 0, _ => ⟨Nat.le_refl _, Nat.le_refl _⟩
  | k + 1, hk => by
    have h1 := scP_ok h k (by omega)
    have h2 := (h.2 k (by omega)).1
    have hg : 0 < Nat.gcd (scP c k) (c.L k) := Nat.gcd_pos_of_pos_left _ (by omega)
    have h3 : 1 ≤ scP c k / Nat.gcd (scP c k) (c.L k) := Nat.div_pos (Nat.gcd_le_left _ (by omega)) hg
    have h4 := Nat.div_le_self (scP c k) (Nat.gcd (scP c k) (c.L k))
    show 1 ≤ scP c k / Nat.gcd (scP c k) (c.L k) * c.L k ∧ scP c k / Nat.gcd (scP c k) (c.L k) * c.L k ≤ 12 ^ k * 12
    exact ⟨Nat.mul_pos (by omega) (by omega), Nat.mul_le_mul (by omega) h2.2⟩
theorem scP_le {c : mCf} (h : okL c) {k : Nat} (hk : k ≤ 3) : scP c k ≤ 1728 := Nat.le_trans (scP_ok h k hk).2 (Nat.le_trans (Nat.pow_le_pow_right (by decide) hk) (by decide))
def esP (c : mCf) (e : Nat) : Nat := if e % 2 = 0 ∧ 0 < e ∧ c.Hg e = false ∧ c.Hg (e - 1) = false then 4 + e - 1 else 4 + e
def frS (c : mCf) : Nat → Nat → Bool
  | 0 => fun s => decide (s ≤ c.m ∧ s < 4 ∧ c.Hi s = false)
  | n + 1 => mu (frS c n) (esP c n) (c.Hg n || !c.Tu ((n + 1) / 2))
def frP (c : mCf) : Nat → Bool := frS c (2 * c.m)
theorem esP_lt {c : mCf} {e : Nat} (h : e < 6) : 4 ≤ esP c e ∧ esP c e < 10 := by unfold esP; split <;> omega

set_option maxRecDepth 100000 in
set_option maxHeartbeats 4000000 in
theorem b_findScale (G : xG) (l : Launch) (ad : Nat → Nat) (F : xM) (R : Nat × Nat) (d : Nat) (σ : cZ) (c : mCf) (hc : Bm σ 1 c) (hok : okL c) : cC G l ad F R YX4_findScale (d + 1) [.ref (ad 4)] σ (fun r σ' => r = none ∧ kp [4] σ σ' ∧ (σ' 4).2.1 12 = lN (scP c c.m) ∧ (σ' 4).1 = (σ 4).1) := by
  obtain ⟨h0, h1, h2, h3, h4, h5, h6, h7⟩ := hc
  refine cC.of (ls := [(0, .ref (ad 4))]) (by decide) (Nat.le_of_ble_eq_true rfl) rfl fun M N S hM => ?_
  have loop : ∀ (u i : Nat) (σ1 : cZ) (M : xM) (N S : Nat), i + u = c.m → kp [4] σ σ1 → (σ1 4).2.1 12 = lN (scP c i) → (σ1 4).1 = (σ 4).1 → cA G ad F R σ1 M N S → xX G l YX4_findScale (d + 1) (cQ G ad F R (fun r σ' => r = none ∧ kp [4] σ σ' ∧ (σ' 4).2.1 12 = lN (scP c c.m) ∧ (σ' 4).1 = (σ 4).1)) 7 [(0, .ref (ad 4)), (1, .int (nI i))] [] M N S := by
    intro u
    induction u with
    | zero =>
      intro i σ1 M N S hi k1 k2 k3 hM
      have e1 : σ1 1 = σ 1 := k1 1 (by decide)

      refine x_iload_n (q := 8) dX4_findScale_7 rfl rfl ?_
      refine x_aload_n (q := 9) dX4_findScale_8 rfl rfl ?_
      refine c_get (q := 12) (k := 4) (f := 0) hM rfl xclX4 fwX4_54 (by decide) dX4_findScale_9 rfl rfl ?_
      refine c_get (q := 15) (k := 1) (f := 6) hM rfl xclX1 fwX4_97 (by decide) dX4_findScale_12 rfl rfl ?_
      refine x_topi (y := nI c.m) (by rw [e1]; exact h1) ?_
      refine xn_icmp_ge (q := 18) 67 dX4_findScale_15 (by decide) rfl (by omega) (by omega) (fun hc15 => ?_) (fun hc15 => absurd hc15 (by omega))
      exact x_vret rfl dX4_findScale_67 (c_ret hM ⟨rfl, k1, by rw [k2, show i = c.m by omega], k3⟩)

    | succ u ih =>
      intro i σ1 M N S hi k1 k2 k3 hM
      have e1 : σ1 1 = σ 1 := k1 1 (by decide)
      have e14 : σ1 14 = σ 14 := k1 14 (by decide)
      have hs := scP_le hok (k := i) (by omega)
      have hs1 := (scP_ok hok i (by omega)).1
      have hL := (hok.2 i (by omega)).1
      have hg : 0 < Nat.gcd (scP c i) (c.L i) := Nat.gcd_pos_of_pos_left _ (by omega)
      have hg2 := Nat.gcd_le_left (c.L i) (show 0 < scP c i by omega)

      refine x_iload_n (q := 8) dX4_findScale_7 rfl rfl ?_
      refine x_aload_n (q := 9) dX4_findScale_8 rfl rfl ?_
      refine c_get (q := 12) (k := 4) (f := 0) hM rfl xclX4 fwX4_54 (by decide) dX4_findScale_9 rfl rfl ?_
      refine c_get (q := 15) (k := 1) (f := 6) hM rfl xclX1 fwX4_97 (by decide) dX4_findScale_12 rfl rfl ?_
      refine x_topi (y := nI c.m) (by rw [e1]; exact h1) ?_
      refine xn_icmp_ge (q := 18) 67 dX4_findScale_15 (by decide) rfl (by omega) (by omega) (fun hc15 => absurd hc15 (by omega)) (fun hc15 => ?_)
      refine x_aload_n (q := 19) dX4_findScale_18 rfl rfl ?_
      refine c_get (q := 22) (k := 4) (f := 12) hM rfl xclX4 fwX4_81 (by decide) dX4_findScale_19 rfl rfl ?_
      refine x_topl (y := lN (scP c i)) (by exact k2) ?_
      refine x_aload_n (q := 23) dX4_findScale_22 rfl rfl ?_
      refine c_get (q := 26) (k := 4) (f := 0) hM rfl xclX4 fwX4_54 (by decide) dX4_findScale_23 rfl rfl ?_
      refine c_get (q := 29) (k := 1) (f := 0) hM rfl xclX1 fwX4_101 (by decide) dX4_findScale_26 rfl rfl ?_
      refine x_iload_n (q := 30) dX4_findScale_29 rfl rfl ?_
      refine c_lald (q := 31) (k := 14) (n := 3) hM rfl (by decide) (by decide) dX4_findScale_30 rfl (by omega) ?_
      refine x_topl (y := lN (c.L i)) (by rw [e14]; exact h2 i (by omega)) ?_
      refine c_callS (q := 34) (As := [_, _]) hM imX3_ofLongs isX3_ofLongs mwX4_104 dX4_findScale_31 rfl rfl rfl (Nat.le_of_ble_eq_true rfl) ?_
      refine (cC.of_x (fun M N S => j_ofLongs G l d M N S (scP c i) (c.L i) (by omega) (by omega))).mono (fun x9 σ9' hp => ?_)
      obtain ⟨rfl, e9⟩ := hp
      intro M N S hM
      rw [e9] at hM; clear e9 σ9'
      show xX G l _ (d + 1) _ _ _ _ M N S
      refine x_lstore_n (q := 35) (ls' := [(0, _), (1, _), (2, _)]) [1, 2, 0] dX4_findScale_34 rfl (by decide) rfl ?_
      refine x_lload_n (q := 36) dX4_findScale_35 rfl rfl ?_
      refine xn_lconst (q := 37) 0 dX4_findScale_36 rfl (by decide) ?_
      refine xn_lcmp_le (q1 := 38) (q := 41) 61 dX4_findScale_37 rfl dX4_findScale_38 (by decide) rfl (by omega) (by omega) (fun hc37 => absurd hc37 (by omega)) (fun hc37 => ?_)
      refine x_aload_n (q := 42) dX4_findScale_41 rfl rfl ?_
      refine x_aload_n (q := 43) dX4_findScale_42 rfl rfl ?_
      refine c_get (q := 46) (k := 4) (f := 12) hM rfl xclX4 fwX4_81 (by decide) dX4_findScale_43 rfl rfl ?_
      refine x_topl (y := lN (scP c i)) (by exact k2) ?_
      refine x_lload_n (q := 47) dX4_findScale_46 rfl rfl ?_
      refine xn_ldiv (q := 48) dX4_findScale_47 rfl (by omega) hg (by omega) ?_
      refine x_aload_n (q := 49) dX4_findScale_48 rfl rfl ?_
      refine c_get (q := 52) (k := 4) (f := 0) hM rfl xclX4 fwX4_54 (by decide) dX4_findScale_49 rfl rfl ?_
      refine c_get (q := 55) (k := 1) (f := 0) hM rfl xclX1 fwX4_101 (by decide) dX4_findScale_52 rfl rfl ?_
      refine x_iload_n (q := 56) dX4_findScale_55 rfl rfl ?_
      refine c_lald (q := 57) (k := 14) (n := 3) hM rfl (by decide) (by decide) dX4_findScale_56 rfl (by omega) ?_
      refine x_topl (y := lN (c.L i)) (by rw [e14]; exact h2 i (by omega)) ?_
      refine xn_lmul (q := 58) dX4_findScale_57 rfl ?_
      refine c_putl (q := 61) (k := 4) (f := 12) hM rfl rfl xclX4 fwX4_81 (by decide) rfl rfl (Nat.le_of_ble_eq_true rfl) dX4_findScale_58 rfl rfl rfl (fun M σ58 a58 e58 b58 hM => ?_)
      refine xn_iinc (q := 64) (ls' := [(0, _), (1, _), (2, _)]) [1, 0, 2] 1 dX4_findScale_61 rfl rfl (by decide) (by decide) rfl ?_
      refine x_goto 7 dX4_findScale_64 (by decide) ?_
      refine x_ls (ls' := [(0, _), (1, _)]) [0, 1] rfl ?_
      exact ih (i + 1) σ58 M N S (by omega) (k1.trans a58) (by rw [e58, mu_s]; rfl) (by rw [b58.1]; exact k3) hM

  refine x_aload_n (q := 1) dX4_findScale_0 rfl rfl ?_
  refine xn_lconst (q := 2) 1 dX4_findScale_1 rfl (by decide) ?_
  refine c_putl (q := 5) (k := 4) (f := 12) hM rfl rfl xclX4 fwX4_81 (by decide) rfl rfl (Nat.le_of_ble_eq_true rfl) dX4_findScale_2 rfl rfl rfl (fun M σ2 a2 e2 b2 hM => ?_)
  refine xn_iconst (q := 6) 0 dX4_findScale_5 rfl (by decide) ?_
  refine x_istore_n (q := 7) (ls' := [(0, _), (1, _)]) [1, 0] dX4_findScale_6 rfl (by decide) rfl ?_
  exact loop c.m 0 σ2 M N S (by omega) a2 (by rw [e2, mu_s]; rfl) b2.1 hM

set_option maxRecDepth 100000 in
set_option maxHeartbeats 4000000 in
theorem b_layOut (G : xG) (l : Launch) (ad : Nat → Nat) (F : xM) (R : Nat × Nat) (d : Nat) (σ : cZ) (c : mCf) (hc : Bm σ 1 c) : cC G l ad F R YX4_layOut d [.ref (ad 4)] σ (fun r σ' => r = none ∧ kp [28, 29] σ σ' ∧ (∀ e, e < 2 * c.m → (σ' 28).1 e = nI (esP c e)) ∧ (∀ s, s < 10 → (σ' 29).1 s = bI (frP c s))) := by
  obtain ⟨h0, h1, h2, h3, h4, h5, h6, h7⟩ := hc
  have loop2 : ∀ (u i : Nat) (σ1 : cZ) (M : xM) (N S : Nat), i + u = 2 * c.m → kp [28, 29] σ σ1 → (∀ e, e < i → (σ1 28).1 e = nI (esP c e)) → (∀ s, s < 10 → (σ1 29).1 s = bI (frS c i s)) → cA G ad F R σ1 M N S → xX G l YX4_layOut d (cQ G ad F R (fun r σ' => r = none ∧ kp [28, 29] σ σ' ∧ (∀ e, e < 2 * c.m → (σ' 28).1 e = nI (esP c e)) ∧ (∀ s, s < 10 → (σ' 29).1 s = bI (frP c s)))) 55 [(0, .ref (ad 4)), (1, .int (nI i))] [] M N S := by
    intro u
    induction u with
    | zero =>
      intro i σ1 M N S hi k1 k2 k3 hM
      have e1 : σ1 1 = σ 1 := k1 1 (by decide)
      obtain rfl : i = 2 * c.m := by omega

      refine x_iload_n (q := 56) dX4_layOut_55 rfl rfl ?_
      refine xn_iconst (q := 57) 2 dX4_layOut_56 rfl (by decide) ?_
      refine x_aload_n (q := 58) dX4_layOut_57 rfl rfl ?_
      refine c_get (q := 61) (k := 4) (f := 0) hM rfl xclX4 fwX4_54 (by decide) dX4_layOut_58 rfl rfl ?_
      refine c_get (q := 64) (k := 1) (f := 6) hM rfl xclX1 fwX4_97 (by decide) dX4_layOut_61 rfl rfl ?_
      refine x_topi (y := nI c.m) (by rw [e1]; exact h1) ?_
      refine xn_imul (q := 65) dX4_layOut_64 rfl ?_
      refine xn_icmp_ge (q := 68) 205 dX4_layOut_65 (by decide) rfl (by omega) (by omega) (fun hc65 => ?_) (fun hc65 => absurd hc65 (by omega))
      exact x_vret rfl dX4_layOut_205 (c_ret hM ⟨rfl, k1, k2, k3⟩)

    | succ u ih =>
      intro i σ1 M N S hi k1 k2 k3 hM
      have e1 : σ1 1 = σ 1 := k1 1 (by decide)
      have e16 : σ1 16 = σ 16 := k1 16 (by decide)
      have e18 : σ1 18 = σ 18 := k1 18 (by decide)
      have hes := esP_lt (c := c) (e := i) (by omega)
      have s141 : ∀ (lf sd : Nat) (σ2 : cZ) (M : xM) (N S : Nat), lf = (if i % 2 = 0 then 1 else 0) → kp [28] σ1 σ2 → (σ2 28).1 = upd (σ1 28).1 i (nI (esP c i)) → cA G ad F R σ2 M N S → xX G l YX4_layOut d (cQ G ad F R (fun r σ' => r = none ∧ kp [28, 29] σ σ' ∧ (∀ e, e < 2 * c.m → (σ' 28).1 e = nI (esP c e)) ∧ (∀ s, s < 10 → (σ' 29).1 s = bI (frP c s)))) 141 [(0, .ref (ad 4)), (1, .int (nI i)), (2, .int (nI lf)), (3, .int (nI sd))] [] M N S := by
        intro lf sd σ2 M N S hlf j1 j2 hM
        have f16 : σ2 16 = σ 16 := (j1 16 (by decide)).trans e16
        have f18 : σ2 18 = σ 18 := (j1 18 (by decide)).trans e18
        have hlf2 : lf = 0 ∨ lf = 1 := by split at hlf <;> omega
        have f28 : (σ2 28).1 i = nI (esP c i) := by rw [j2]; simp [upd]
        have s158 : ∀ (M : xM) (N S : Nat), cA G ad F R σ2 M N S → xX G l YX4_layOut d (cQ G ad F R (fun r σ' => r = none ∧ kp [28, 29] σ σ' ∧ (∀ e, e < 2 * c.m → (σ' 28).1 e = nI (esP c e)) ∧ (∀ s, s < 10 → (σ' 29).1 s = bI (frP c s)))) 158 [(0, .ref (ad 4)), (1, .int (nI i)), (2, .int (nI lf)), (3, .int (nI sd)), (4, .int (nI ((i + 1) / 2)))] [] M N S := by
          intro M N S hM

          refine x_aload_n (q := 159) dX4_layOut_158 rfl rfl ?_
          refine c_get (q := 162) (k := 4) (f := 3) hM rfl xclX4 fwX4_20 (by decide) dX4_layOut_159 rfl rfl ?_
          refine x_aload_n (q := 163) dX4_layOut_162 rfl rfl ?_
          refine c_get (q := 166) (k := 4) (f := 2) hM rfl xclX4 fwX4_17 (by decide) dX4_layOut_163 rfl rfl ?_
          refine x_iload_n (q := 167) dX4_layOut_166 rfl rfl ?_
          refine c_iald (q := 168) (k := 28) (n := 6) hM rfl (by decide) (by decide) dX4_layOut_167 rfl (by omega) ?_
          refine x_topi (y := nI (esP c i)) (by exact f28) ?_
          refine x_aload_n (q := 169) dX4_layOut_168 rfl rfl ?_
          refine c_get (q := 172) (k := 4) (f := 0) hM rfl xclX4 fwX4_54 (by decide) dX4_layOut_169 rfl rfl ?_
          refine c_get (q := 175) (k := 1) (f := 2) hM rfl xclX1 fwX4_113 (by decide) dX4_layOut_172 rfl rfl ?_
          refine x_iload_n (q := 176) dX4_layOut_175 rfl rfl ?_
          refine c_zald (q := 177) (k := 16) (n := 6) hM rfl (by decide) (by decide) dX4_layOut_176 rfl (by omega) ?_
          refine x_topi (y := bI (c.Hg i)) (by rw [f16]; exact h4 i (by omega)) ?_
          refine x_if_ne (q := 180) 193 dX4_layOut_177 (by decide) rfl (fun hc177 => ?_) (fun hc177 => ?_)
          · refine xn_iconst (q := 194) 1 dX4_layOut_193 rfl (by decide) ?_
            refine x_goto 198 dX4_layOut_194 (by decide) ?_
            refine c_zast (q := 199) (k := 29) (n := 10) hM (by decide) (fun _ => rfl) (by decide) dX4_layOut_198 rfl (by omega) (by decide) (fun M σ198 a198 e198 b198 hM => ?_)
            refine xn_iinc (q := 202) (ls' := [(0, _), (1, _), (2, _), (3, _), (4, _)]) [1, 0, 2, 3, 4] 1 dX4_layOut_199 rfl rfl (by decide) (by decide) rfl ?_
            refine x_goto 55 dX4_layOut_202 (by decide) ?_
            refine x_ls (ls' := [(0, _), (1, _)]) [0, 1] rfl ?_
            have hval : (c.Hg i || !c.Tu ((i + 1) / 2)) = true := by rw [bI_ne.mp hc177]; rfl
            refine ih (i + 1) σ198 M N S (by omega) (k1.trans ((j1.mono (by decide)).trans (a198.mono (by decide)))) (fun e he => ?_) (fun s hs => ?_) hM
            · rw [a198 28 (by decide), j2]
              by_cases ee : e = i
              · rw [ee]; simp [upd]
              · simp only [upd, if_neg ee]; exact k2 e (by omega)
            · rw [e198, j1 29 (by decide)]
              show _ = bI (mu (frS c i) (esP c i) (c.Hg i || !c.Tu ((i + 1) / 2)) s)
              by_cases es : s = esP c i
              · rw [es, mu_s, hval]; simp only [upd, if_true]; rfl
              · rw [mu_n es]; simp only [upd, if_neg es]; exact k3 s hs
          · refine x_aload_n (q := 181) dX4_layOut_180 rfl rfl ?_
            refine c_get (q := 184) (k := 4) (f := 0) hM rfl xclX4 fwX4_54 (by decide) dX4_layOut_181 rfl rfl ?_
            refine c_get (q := 187) (k := 1) (f := 4) hM rfl xclX1 fwX4_116 (by decide) dX4_layOut_184 rfl rfl ?_
            refine x_iload (q := 189) dX4_layOut_187 rfl rfl ?_
            refine c_zald (q := 190) (k := 18) (n := 4) hM rfl (by decide) (by decide) dX4_layOut_189 rfl (by omega) ?_
            refine x_topi (y := bI (c.Tu ((i + 1) / 2))) (by rw [f18]; exact h6 _ (by omega)) ?_
            refine x_if_ne (q := 193) 197 dX4_layOut_190 (by decide) rfl (fun hc190 => ?_) (fun hc190 => ?_)
            · refine xn_iconst (q := 198) 0 dX4_layOut_197 rfl (by decide) ?_
              refine c_zast (q := 199) (k := 29) (n := 10) hM (by decide) (fun _ => rfl) (by decide) dX4_layOut_198 rfl (by omega) (by decide) (fun M σ198 a198 e198 b198 hM => ?_)
              refine xn_iinc (q := 202) (ls' := [(0, _), (1, _), (2, _), (3, _), (4, _)]) [1, 0, 2, 3, 4] 1 dX4_layOut_199 rfl rfl (by decide) (by decide) rfl ?_
              refine x_goto 55 dX4_layOut_202 (by decide) ?_
              refine x_ls (ls' := [(0, _), (1, _)]) [0, 1] rfl ?_
              have hval : (c.Hg i || !c.Tu ((i + 1) / 2)) = false := by rw [bI_eq.mp hc177, bI_ne.mp hc190]; rfl
              refine ih (i + 1) σ198 M N S (by omega) (k1.trans ((j1.mono (by decide)).trans (a198.mono (by decide)))) (fun e he => ?_) (fun s hs => ?_) hM
              · rw [a198 28 (by decide), j2]
                by_cases ee : e = i
                · rw [ee]; simp [upd]
                · simp only [upd, if_neg ee]; exact k2 e (by omega)
              · rw [e198, j1 29 (by decide)]
                show _ = bI (mu (frS c i) (esP c i) (c.Hg i || !c.Tu ((i + 1) / 2)) s)
                by_cases es : s = esP c i
                · rw [es, mu_s, hval]; simp only [upd, if_true]; rfl
                · rw [mu_n es]; simp only [upd, if_neg es]; exact k3 s hs
            · refine xn_iconst (q := 194) 1 dX4_layOut_193 rfl (by decide) ?_
              refine x_goto 198 dX4_layOut_194 (by decide) ?_
              refine c_zast (q := 199) (k := 29) (n := 10) hM (by decide) (fun _ => rfl) (by decide) dX4_layOut_198 rfl (by omega) (by decide) (fun M σ198 a198 e198 b198 hM => ?_)
              refine xn_iinc (q := 202) (ls' := [(0, _), (1, _), (2, _), (3, _), (4, _)]) [1, 0, 2, 3, 4] 1 dX4_layOut_199 rfl rfl (by decide) (by decide) rfl ?_
              refine x_goto 55 dX4_layOut_202 (by decide) ?_
              refine x_ls (ls' := [(0, _), (1, _)]) [0, 1] rfl ?_
              have hval : (c.Hg i || !c.Tu ((i + 1) / 2)) = true := by rw [bI_eq.mp hc177, bI_eq.mp hc190]; rfl
              refine ih (i + 1) σ198 M N S (by omega) (k1.trans ((j1.mono (by decide)).trans (a198.mono (by decide)))) (fun e he => ?_) (fun s hs => ?_) hM
              · rw [a198 28 (by decide), j2]
                by_cases ee : e = i
                · rw [ee]; simp [upd]
                · simp only [upd, if_neg ee]; exact k2 e (by omega)
              · rw [e198, j1 29 (by decide)]
                show _ = bI (mu (frS c i) (esP c i) (c.Hg i || !c.Tu ((i + 1) / 2)) s)
                by_cases es : s = esP c i
                · rw [es, mu_s, hval]; simp only [upd, if_true]; rfl
                · rw [mu_n es]; simp only [upd, if_neg es]; exact k3 s hs

        refine x_iload_n (q := 142) dX4_layOut_141 rfl rfl ?_
        refine xn_if_eq (q := 145) 151 dX4_layOut_142 (by decide) rfl (by omega) (fun hc142 => ?_) (fun hc142 => ?_)
        · refine x_iload_n (q := 152) dX4_layOut_151 rfl rfl ?_
          refine xn_iconst (q := 153) 2 dX4_layOut_152 rfl (by decide) ?_
          refine xn_idiv (q := 154) dX4_layOut_153 rfl (by omega) (by decide) (by decide) ?_
          refine xn_iconst (q := 155) 1 dX4_layOut_154 rfl (by decide) ?_
          refine xn_iadd (q := 156) dX4_layOut_155 rfl ?_
          refine x_istore (q := 158) (ls' := [(0, _), (1, _), (2, _), (3, _), (4, _)]) [1, 2, 3, 4, 0] dX4_layOut_156 rfl (by decide) rfl ?_
          rw [show i / 2 + 1 = (i + 1) / 2 by split at hlf <;> omega]
          exact s158 M N S hM
        · refine x_iload_n (q := 146) dX4_layOut_145 rfl rfl ?_
          refine xn_iconst (q := 147) 2 dX4_layOut_146 rfl (by decide) ?_
          refine xn_idiv (q := 148) dX4_layOut_147 rfl (by omega) (by decide) (by decide) ?_
          refine x_goto 156 dX4_layOut_148 (by decide) ?_
          refine x_istore (q := 158) (ls' := [(0, _), (1, _), (2, _), (3, _), (4, _)]) [1, 2, 3, 4, 0] dX4_layOut_156 rfl (by decide) rfl ?_
          rw [show i / 2 = (i + 1) / 2 by split at hlf <;> omega]
          exact s158 M N S hM

      have s119 : ∀ (lf sd : Nat) (M : xM) (N S : Nat), lf = (if i % 2 = 0 then 1 else 0) → sd = (if i % 2 = 0 ∧ 0 < i ∧ c.Hg i = false ∧ c.Hg (i - 1) = false then 1 else 0) → cA G ad F R σ1 M N S → xX G l YX4_layOut d (cQ G ad F R (fun r σ' => r = none ∧ kp [28, 29] σ σ' ∧ (∀ e, e < 2 * c.m → (σ' 28).1 e = nI (esP c e)) ∧ (∀ s, s < 10 → (σ' 29).1 s = bI (frP c s)))) 119 [(0, .ref (ad 4)), (1, .int (nI i)), (2, .int (nI lf))] [.int (nI sd)] M N S := by
        intro lf sd M N S hlf hsd hM
        have hes1 : sd ≠ 0 → 4 + i - 1 = esP c i := fun h => by
          unfold esP
          split at hsd
          · rename_i hq; rw [if_pos hq]
          · omega
        have hes0 : sd = 0 → 4 + i = esP c i := fun h => by
          unfold esP
          split at hsd
          · omega
          · rename_i hq; rw [if_neg hq]
        have hsd2 : sd = 0 ∨ sd = 1 := by split at hsd <;> omega

        refine x_istore_n (q := 120) (ls' := [(0, _), (1, _), (2, _), (3, _)]) [1, 2, 3, 0] dX4_layOut_119 rfl (by decide) rfl ?_
        refine x_aload_n (q := 121) dX4_layOut_120 rfl rfl ?_
        refine c_get (q := 124) (k := 4) (f := 2) hM rfl xclX4 fwX4_17 (by decide) dX4_layOut_121 rfl rfl ?_
        refine x_iload_n (q := 125) dX4_layOut_124 rfl rfl ?_
        refine x_iload_n (q := 126) dX4_layOut_125 rfl rfl ?_
        refine xn_if_eq (q := 129) 137 dX4_layOut_126 (by decide) rfl (by omega) (fun hc126 => ?_) (fun hc126 => ?_)
        · refine xn_iconst (q := 138) 4 dX4_layOut_137 rfl (by decide) ?_
          refine x_iload_n (q := 139) dX4_layOut_138 rfl rfl ?_
          refine xn_iadd (q := 140) dX4_layOut_139 rfl ?_
          refine c_iast (q := 141) (k := 28) (n := 6) hM (by decide) (fun _ => rfl) (by decide) dX4_layOut_140 rfl (by omega) (fun M σ140 a140 e140 b140 hM => ?_)
          exact s141 lf sd σ140 M N S hlf a140 (by rw [e140, ← hes0 hc126]) hM
        · refine xn_iconst (q := 130) 4 dX4_layOut_129 rfl (by decide) ?_
          refine x_iload_n (q := 131) dX4_layOut_130 rfl rfl ?_
          refine xn_iadd (q := 132) dX4_layOut_131 rfl ?_
          refine xn_iconst (q := 133) 1 dX4_layOut_132 rfl (by decide) ?_
          refine xn_isub (q := 134) dX4_layOut_133 rfl (by omega) ?_
          refine x_goto 140 dX4_layOut_134 (by decide) ?_
          refine c_iast (q := 141) (k := 28) (n := 6) hM (by decide) (fun _ => rfl) (by decide) dX4_layOut_140 rfl (by omega) (fun M σ140 a140 e140 b140 hM => ?_)
          exact s141 lf sd σ140 M N S hlf a140 (by rw [e140, ← hes1 hc126]) hM

      refine x_iload_n (q := 56) dX4_layOut_55 rfl rfl ?_
      refine xn_iconst (q := 57) 2 dX4_layOut_56 rfl (by decide) ?_
      refine x_aload_n (q := 58) dX4_layOut_57 rfl rfl ?_
      refine c_get (q := 61) (k := 4) (f := 0) hM rfl xclX4 fwX4_54 (by decide) dX4_layOut_58 rfl rfl ?_
      refine c_get (q := 64) (k := 1) (f := 6) hM rfl xclX1 fwX4_97 (by decide) dX4_layOut_61 rfl rfl ?_
      refine x_topi (y := nI c.m) (by rw [e1]; exact h1) ?_
      refine xn_imul (q := 65) dX4_layOut_64 rfl ?_
      refine xn_icmp_ge (q := 68) 205 dX4_layOut_65 (by decide) rfl (by omega) (by omega) (fun hc65 => absurd hc65 (by omega)) (fun hc65 => ?_)
      refine x_iload_n (q := 69) dX4_layOut_68 rfl rfl ?_
      refine xn_iconst (q := 70) 2 dX4_layOut_69 rfl (by decide) ?_
      refine xn_irem (q := 71) dX4_layOut_70 rfl (by omega) (by decide) (by decide) ?_
      refine xn_if_ne (q := 74) 78 dX4_layOut_71 (by decide) rfl (by omega) (fun hc71 => ?_) (fun hc71 => ?_)
      · refine xn_iconst (q := 79) 0 dX4_layOut_78 rfl (by decide) ?_
        refine x_istore_n (q := 80) (ls' := [(0, _), (1, _), (2, _)]) [1, 2, 0] dX4_layOut_79 rfl (by decide) rfl ?_
        refine x_iload_n (q := 81) dX4_layOut_80 rfl rfl ?_
        refine xn_if_eq (q := 84) 118 dX4_layOut_81 (by decide) rfl (by omega) (fun hc81 => ?_) (fun hc81 => absurd hc81 (by decide))
        refine xn_iconst (q := 119) 0 dX4_layOut_118 rfl (by decide) ?_
        exact s119 0 0 M N S (by rw [if_neg (by omega)]) (by rw [if_neg (fun h => by omega)]) hM
      · refine xn_iconst (q := 75) 1 dX4_layOut_74 rfl (by decide) ?_
        refine x_goto 79 dX4_layOut_75 (by decide) ?_
        refine x_istore_n (q := 80) (ls' := [(0, _), (1, _), (2, _)]) [1, 2, 0] dX4_layOut_79 rfl (by decide) rfl ?_
        refine x_iload_n (q := 81) dX4_layOut_80 rfl rfl ?_
        refine xn_if_eq (q := 84) 118 dX4_layOut_81 (by decide) rfl (by omega) (fun hc81 => absurd hc81 (by decide)) (fun hc81 => ?_)
        refine x_iload_n (q := 85) dX4_layOut_84 rfl rfl ?_
        refine xn_if_le (q := 88) 118 dX4_layOut_85 (by decide) rfl (by omega) (fun hc85 => ?_) (fun hc85 => ?_)
        · refine xn_iconst (q := 119) 0 dX4_layOut_118 rfl (by decide) ?_
          exact s119 1 0 M N S (by rw [if_pos (by omega)]) (by rw [if_neg (fun h => by omega)]) hM
        · refine x_aload_n (q := 89) dX4_layOut_88 rfl rfl ?_
          refine c_get (q := 92) (k := 4) (f := 0) hM rfl xclX4 fwX4_54 (by decide) dX4_layOut_89 rfl rfl ?_
          refine c_get (q := 95) (k := 1) (f := 2) hM rfl xclX1 fwX4_113 (by decide) dX4_layOut_92 rfl rfl ?_
          refine x_iload_n (q := 96) dX4_layOut_95 rfl rfl ?_
          refine c_zald (q := 97) (k := 16) (n := 6) hM rfl (by decide) (by decide) dX4_layOut_96 rfl (by omega) ?_
          refine x_topi (y := bI (c.Hg i)) (by rw [e16]; exact h4 i (by omega)) ?_
          refine x_if_ne (q := 100) 118 dX4_layOut_97 (by decide) rfl (fun hc97 => ?_) (fun hc97 => ?_)
          · refine xn_iconst (q := 119) 0 dX4_layOut_118 rfl (by decide) ?_
            exact s119 1 0 M N S (by rw [if_pos (by omega)]) (by rw [if_neg (fun h => by rw [bI_ne.mp hc97] at h; exact absurd h.2.2.1 (by decide))]) hM
          · refine x_aload_n (q := 101) dX4_layOut_100 rfl rfl ?_
            refine c_get (q := 104) (k := 4) (f := 0) hM rfl xclX4 fwX4_54 (by decide) dX4_layOut_101 rfl rfl ?_
            refine c_get (q := 107) (k := 1) (f := 2) hM rfl xclX1 fwX4_113 (by decide) dX4_layOut_104 rfl rfl ?_
            refine x_iload_n (q := 108) dX4_layOut_107 rfl rfl ?_
            refine xn_iconst (q := 109) 1 dX4_layOut_108 rfl (by decide) ?_
            refine xn_isub (q := 110) dX4_layOut_109 rfl (by omega) ?_
            refine c_zald (q := 111) (k := 16) (n := 6) hM rfl (by decide) (by decide) dX4_layOut_110 rfl (by omega) ?_
            refine x_topi (y := bI (c.Hg (i - 1))) (by rw [e16]; exact h4 (i - 1) (by omega)) ?_
            refine x_if_ne (q := 114) 118 dX4_layOut_111 (by decide) rfl (fun hc111 => ?_) (fun hc111 => ?_)
            · refine xn_iconst (q := 119) 0 dX4_layOut_118 rfl (by decide) ?_
              exact s119 1 0 M N S (by rw [if_pos (by omega)]) (by rw [if_neg (fun h => by rw [bI_ne.mp hc111] at h; exact absurd h.2.2.2 (by decide))]) hM
            · refine xn_iconst (q := 115) 1 dX4_layOut_114 rfl (by decide) ?_
              refine x_goto 119 dX4_layOut_115 (by decide) ?_
              exact s119 1 1 M N S (by rw [if_pos (by omega)]) (by rw [if_pos ⟨by omega, by omega, bI_eq.mp hc97, bI_eq.mp hc111⟩]) hM

  have loop1 : ∀ (u i : Nat) (σ1 : cZ) (M : xM) (N S : Nat), i + u = 10 → kp [29] σ σ1 → (∀ s, s < i → (σ1 29).1 s = bI (frS c 0 s)) → cA G ad F R σ1 M N S → xX G l YX4_layOut d (cQ G ad F R (fun r σ' => r = none ∧ kp [28, 29] σ σ' ∧ (∀ e, e < 2 * c.m → (σ' 28).1 e = nI (esP c e)) ∧ (∀ s, s < 10 → (σ' 29).1 s = bI (frP c s)))) 2 [(0, .ref (ad 4)), (1, .int (nI i))] [] M N S := by
    intro u
    induction u with
    | zero =>
      intro i σ1 M N S hi k1 k2 hM

      refine x_iload_n (q := 3) dX4_layOut_2 rfl rfl ?_
      refine xn_bipush (q := 5) 10 dX4_layOut_3 rfl (by decide) ?_
      refine xn_icmp_ge (q := 8) 53 dX4_layOut_5 (by decide) rfl (by omega) (by omega) (fun hc5 => ?_) (fun hc5 => absurd hc5 (by omega))
      refine xn_iconst (q := 54) 0 dX4_layOut_53 rfl (by decide) ?_
      refine x_istore_n (q := 55) (ls' := [(0, _), (1, _)]) [1, 0] dX4_layOut_54 rfl (by decide) rfl ?_
      exact loop2 (2 * c.m) 0 σ1 M N S (by omega) (k1.mono (by decide)) (fun e he => absurd he (Nat.not_lt_zero e)) (fun s hs => k2 s (by omega)) hM

    | succ u ih =>
      intro i σ1 M N S hi k1 k2 hM
      have e1 : σ1 1 = σ 1 := k1 1 (by decide)
      have e17 : σ1 17 = σ 17 := k1 17 (by decide)

      refine x_iload_n (q := 3) dX4_layOut_2 rfl rfl ?_
      refine xn_bipush (q := 5) 10 dX4_layOut_3 rfl (by decide) ?_
      refine xn_icmp_ge (q := 8) 53 dX4_layOut_5 (by decide) rfl (by omega) (by omega) (fun hc5 => absurd hc5 (by omega)) (fun hc5 => ?_)
      refine x_aload_n (q := 9) dX4_layOut_8 rfl rfl ?_
      refine c_get (q := 12) (k := 4) (f := 3) hM rfl xclX4 fwX4_20 (by decide) dX4_layOut_9 rfl rfl ?_
      refine x_iload_n (q := 13) dX4_layOut_12 rfl rfl ?_
      refine x_iload_n (q := 14) dX4_layOut_13 rfl rfl ?_
      refine x_aload_n (q := 15) dX4_layOut_14 rfl rfl ?_
      refine c_get (q := 18) (k := 4) (f := 0) hM rfl xclX4 fwX4_54 (by decide) dX4_layOut_15 rfl rfl ?_
      refine c_get (q := 21) (k := 1) (f := 6) hM rfl xclX1 fwX4_97 (by decide) dX4_layOut_18 rfl rfl ?_
      refine x_topi (y := nI c.m) (by rw [e1]; exact h1) ?_
      refine xn_icmp_gt (q := 24) 45 dX4_layOut_21 (by decide) rfl (by omega) (by omega) (fun hc21 => ?_) (fun hc21 => ?_)
      · refine xn_iconst (q := 46) 0 dX4_layOut_45 rfl (by decide) ?_
        refine c_zast (q := 47) (k := 29) (n := 10) hM (by decide) (fun _ => rfl) (by decide) dX4_layOut_46 rfl (by omega) (by decide) (fun M σ46 a46 e46 b46 hM => ?_)
        refine xn_iinc (q := 50) (ls' := [(0, _), (1, _)]) [1, 0] 1 dX4_layOut_47 rfl rfl (by decide) (by decide) rfl ?_
        refine x_goto 2 dX4_layOut_50 (by decide) ?_
        have hval : frS c 0 i = false := decide_eq_false (fun h => by omega)
        refine ih (i + 1) σ46 M N S (by omega) (k1.trans a46) (fun s hs => ?_) hM
        rw [e46]
        by_cases es : s = i
        · rw [es, hval]; simp only [upd, if_true]; rfl
        · simp only [upd, if_neg es]; exact k2 s (by omega)
      · refine x_iload_n (q := 25) dX4_layOut_24 rfl rfl ?_
        refine xn_iconst (q := 26) 4 dX4_layOut_25 rfl (by decide) ?_
        refine xn_icmp_ge (q := 29) 45 dX4_layOut_26 (by decide) rfl (by omega) (by omega) (fun hc26 => ?_) (fun hc26 => ?_)
        · refine xn_iconst (q := 46) 0 dX4_layOut_45 rfl (by decide) ?_
          refine c_zast (q := 47) (k := 29) (n := 10) hM (by decide) (fun _ => rfl) (by decide) dX4_layOut_46 rfl (by omega) (by decide) (fun M σ46 a46 e46 b46 hM => ?_)
          refine xn_iinc (q := 50) (ls' := [(0, _), (1, _)]) [1, 0] 1 dX4_layOut_47 rfl rfl (by decide) (by decide) rfl ?_
          refine x_goto 2 dX4_layOut_50 (by decide) ?_
          have hval : frS c 0 i = false := decide_eq_false (fun h => by omega)
          refine ih (i + 1) σ46 M N S (by omega) (k1.trans a46) (fun s hs => ?_) hM
          rw [e46]
          by_cases es : s = i
          · rw [es, hval]; simp only [upd, if_true]; rfl
          · simp only [upd, if_neg es]; exact k2 s (by omega)
        · refine x_aload_n (q := 30) dX4_layOut_29 rfl rfl ?_
          refine c_get (q := 33) (k := 4) (f := 0) hM rfl xclX4 fwX4_54 (by decide) dX4_layOut_30 rfl rfl ?_
          refine c_get (q := 36) (k := 1) (f := 3) hM rfl xclX1 fwX4_110 (by decide) dX4_layOut_33 rfl rfl ?_
          refine x_iload_n (q := 37) dX4_layOut_36 rfl rfl ?_
          refine c_zald (q := 38) (k := 17) (n := 4) hM rfl (by decide) (by decide) dX4_layOut_37 rfl (by omega) ?_
          refine x_topi (y := bI (c.Hi i)) (by rw [e17]; exact h5 i (by omega)) ?_
          refine x_if_ne (q := 41) 45 dX4_layOut_38 (by decide) rfl (fun hc38 => ?_) (fun hc38 => ?_)
          · refine xn_iconst (q := 46) 0 dX4_layOut_45 rfl (by decide) ?_
            refine c_zast (q := 47) (k := 29) (n := 10) hM (by decide) (fun _ => rfl) (by decide) dX4_layOut_46 rfl (by omega) (by decide) (fun M σ46 a46 e46 b46 hM => ?_)
            refine xn_iinc (q := 50) (ls' := [(0, _), (1, _)]) [1, 0] 1 dX4_layOut_47 rfl rfl (by decide) (by decide) rfl ?_
            refine x_goto 2 dX4_layOut_50 (by decide) ?_
            have hval : frS c 0 i = false := decide_eq_false (fun h => by rw [bI_ne.mp hc38] at h; exact absurd h.2.2 (by decide))
            refine ih (i + 1) σ46 M N S (by omega) (k1.trans a46) (fun s hs => ?_) hM
            rw [e46]
            by_cases es : s = i
            · rw [es, hval]; simp only [upd, if_true]; rfl
            · simp only [upd, if_neg es]; exact k2 s (by omega)
          · refine xn_iconst (q := 42) 1 dX4_layOut_41 rfl (by decide) ?_
            refine x_goto 46 dX4_layOut_42 (by decide) ?_
            refine c_zast (q := 47) (k := 29) (n := 10) hM (by decide) (fun _ => rfl) (by decide) dX4_layOut_46 rfl (by omega) (by decide) (fun M σ46 a46 e46 b46 hM => ?_)
            refine xn_iinc (q := 50) (ls' := [(0, _), (1, _)]) [1, 0] 1 dX4_layOut_47 rfl rfl (by decide) (by decide) rfl ?_
            refine x_goto 2 dX4_layOut_50 (by decide) ?_
            have hval : frS c 0 i = true := decide_eq_true ⟨by omega, by omega, bI_eq.mp hc38⟩
            refine ih (i + 1) σ46 M N S (by omega) (k1.trans a46) (fun s hs => ?_) hM
            rw [e46]
            by_cases es : s = i
            · rw [es, hval]; simp only [upd, if_true]; rfl
            · simp only [upd, if_neg es]; exact k2 s (by omega)

  refine cC.of (ls := [(0, .ref (ad 4))]) (by decide) (Nat.le_of_ble_eq_true rfl) rfl fun M N S hM => ?_

  refine xn_iconst (q := 1) 0 dX4_layOut_0 rfl (by decide) ?_
  refine x_istore_n (q := 2) (ls' := [(0, _), (1, _)]) [1, 0] dX4_layOut_1 rfl (by decide) rfl ?_
  exact loop1 10 0 σ M N S (by decide) kp.rfl' (fun s hs => absurd hs (Nat.not_lt_zero s)) hM

end XB8
