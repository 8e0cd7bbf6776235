section XB2
/-- the class's beams (b = 1) or draft (b = 2) hold this row of beams -/
def Bm (σ : cZ) (b : Nat) (c : mCf) : Prop := c.m ≤ 3 ∧ (σ b).1 6 = nI c.m ∧ (∀ k, k < 3 → (σ (8 + 6 * b)).2.1 k = lN (c.L k)) ∧ (∀ k, k < 3 → (σ (9 + 6 * b)).2.1 k = lN (c.E k)) ∧ (∀ k, k < 6 → (σ (10 + 6 * b)).1 k = bI (c.Hg k)) ∧ (∀ k, k < 4 → (σ (11 + 6 * b)).1 k = bI (c.Hi k)) ∧ (∀ k, k < 4 → (σ (12 + 6 * b)).1 k = bI (c.Tu k)) ∧ ∀ k, k < 4 → (σ (13 + 6 * b)).2.1 k = iL (c.Se k)
theorem Bm.kp {ks : List Nat} {σ σ' : cZ} {b : Nat} {c : mCf} (h : Bm σ b c) (k : kp ks σ σ') (hn : ∀ i, i ∈ [b, 8 + 6 * b, 9 + 6 * b, 10 + 6 * b, 11 + 6 * b, 12 + 6 * b, 13 + 6 * b] → i ∉ ks) : Bm σ' b c := by
  unfold Bm at *
  rw [k b (hn _ (by simp)), k (8 + 6 * b) (hn _ (by simp)), k (9 + 6 * b) (hn _ (by simp)), k (10 + 6 * b) (hn _ (by simp)), k (11 + 6 * b) (hn _ (by simp)), k (12 + 6 * b) (hn _ (by simp)), k (13 + 6 * b) (hn _ (by simp))]
  exact h

theorem b_fill (G : xG) (l : Launch) (ad : Nat → Nat) (F : xM) (R : Nat × Nat) (d : Nat) (σ : cZ) (k n : Nat) (v : Int64) (hlt : k < 40) (hk : ∀ τ, cE ad τ k = some (laE n (τ k))) (hn : n < 2 ^ 31) : cC G l ad F R YJ7_fill_d0a16 d [.ref (ad k), .long v] σ (fun r σ' => r = none ∧ kp [k] σ σ' ∧ (∀ j, j < n → (σ' k).2.1 j = v) ∧ (σ' k).1 = (σ k).1) := by
  intro M N S hM
  refine (j_fillL G l d M N S (ad k) n _ v hn (hM.arr (hk σ) (by omega))).mono (fun r M' N' S' z => ?_)
  obtain ⟨rfl, rfl, rfl, f', hf, rfl⟩ := z
  exact ⟨mu σ k ((σ k).1, f', (σ k).2.2), hM.seta hlt (by rw [hk, mu_s]), rfl, fun j hj => mu_n (by simpa using hj), fun j hj => by rw [mu_s]; exact hf j hj, by rw [mu_s]⟩

theorem c_copyl {G : xG} {l : Launch} {Y : xY} {d : Nat} {Q : xPost} {pc q : Nat} {ls : List (Nat × Value)} {rest : List Value} {M : xM} {N S : Nat} {ad : Nat → Nat} {F : xM} {R : Nat × Nat} {σ : cZ} {index k j n : Nat} (hM : cA G ad F R σ M N S) (hk : k < 40) (hj : j < 40) (hEk : ∀ τ, cE ad τ k = some (laE n (τ k))) (hEj : ∀ τ, cE ad τ j = some (laE n (τ j))) (hn : n < 2 ^ 31)  (hw : Cond.methodLink Y.1.cls index arraycopyName ∈ xW) (hd : decode Y.2.1 pc = .ok (.invokestatic index, 3)) (hq : pc + 3 = q) (hr : (rest.map fun v => v.category).sum ≤ 8) (kk : ∀ (M' : xM) (σ' : cZ), kp [k] σ σ' → (∀ i, i < n → (σ' k).2.1 i = (σ j).2.1 i) → (σ' k).1 = (σ k).1 ∧ (σ' k).2.2 = (σ k).2.2 → cA G ad F R σ' M' N S → xX G l Y (d + 1) Q q ls rest M' N S) : xX G l Y (d + 1) Q pc ls (.int (nI n) :: .int (nI 0) :: .ref (ad k) :: .int (nI 0) :: .ref (ad j) :: rest) M N S := by
  refine x_copyl (q := q) (sp := 0) (dp := 0) 1 rfl rfl hw ac1 ac2 ac3 hd hq (hM.arr (hEj σ) (by omega)) (hM.arr (hEk σ) (by omega)) (by omega) (by omega) hn hn (fun i hi => rfl) hr ?_
  refine kk _ (mu σ k ((σ k).1, va_cpy (σ j).2.1 (σ k).2.1 0 0 n, (σ k).2.2)) (fun i hi => mu_n (by simpa using hi)) (fun i hi => ?_) (by rw [mu_s]; exact ⟨rfl, rfl⟩) (hM.seta hk (by rw [hEk, mu_s]))
  rw [mu_s]
  show va_cpy _ _ 0 0 n i = _
  unfold va_cpy
  rw [if_pos (by omega), show 0 + (i - 0) = i by omega]

theorem c_copyz {G : xG} {l : Launch} {Y : xY} {d : Nat} {Q : xPost} {pc q : Nat} {ls : List (Nat × Value)} {rest : List Value} {M : xM} {N S : Nat} {ad : Nat → Nat} {F : xM} {R : Nat × Nat} {σ : cZ} {index k j n : Nat} (hM : cA G ad F R σ M N S) (hk : k < 40) (hj : j < 40) (hEk : ∀ τ, cE ad τ k = some (zaE n (τ k))) (hEj : ∀ τ, cE ad τ j = some (zaE n (τ j))) (hn : n < 2 ^ 31) (hfit : ∀ i, i < n → fits .boolean (.int ((σ j).1 i)) = true) (hw : Cond.methodLink Y.1.cls index arraycopyName ∈ xW) (hd : decode Y.2.1 pc = .ok (.invokestatic index, 3)) (hq : pc + 3 = q) (hr : (rest.map fun v => v.category).sum ≤ 8) (kk : ∀ (M' : xM) (σ' : cZ), kp [k] σ σ' → (∀ i, i < n → (σ' k).1 i = (σ j).1 i) → (σ' k).2.1 = (σ k).2.1 ∧ (σ' k).2.2 = (σ k).2.2 → cA G ad F R σ' M' N S → xX G l Y (d + 1) Q q ls rest M' N S) : xX G l Y (d + 1) Q pc ls (.int (nI n) :: .int (nI 0) :: .ref (ad k) :: .int (nI 0) :: .ref (ad j) :: rest) M N S := by
  refine x_copyi (q := q) (sp := 0) (dp := 0) 2 rfl rfl hw ac1 ac2 ac3 hd hq (hM.arr (hEj σ) (by omega)) (hM.arr (hEk σ) (by omega)) (by omega) (by omega) hn hn (fun i hi => by rw [Nat.zero_add]; exact hfit i hi) hr ?_
  refine kk _ (mu σ k (va_cpy (σ j).1 (σ k).1 0 0 n, (σ k).2)) (fun i hi => mu_n (by simpa using hi)) (fun i hi => ?_) (by rw [mu_s]; exact ⟨rfl, rfl⟩) (hM.seta hk (by rw [hEk, mu_s]))
  rw [mu_s]
  show va_cpy _ _ 0 0 n i = _
  unfold va_cpy
  rw [if_pos (by omega), show 0 + (i - 0) = i by omega]

set_option maxRecDepth 100000 in
set_option maxHeartbeats 4000000 in
theorem b_isNumber (G : xG) (l : Launch) (d : Nat) (M : xM) (N S : Nat) (v : Int) (h1 : -9223372036854775808 ≤ v) (h2 : v < 9223372036854775808) : xC G l YX1_isNumber d [.long (iL v)] M N S (fun r M' N' S' => r = some (.int (bI (decide (1 ≤ v ∧ v ≤ 12)))) ∧ M' = M ∧ N' = N ∧ S' = S) := by
  refine xC.of (ls := [(0, .long (iL v))]) (by decide) (Nat.le_of_ble_eq_true rfl) rfl ?_

  refine x_lload_n (q := 1) dX1_isNumber_0 rfl rfl ?_
  refine xn_lconst (q := 2) 1 dX1_isNumber_1 rfl (by decide) ?_
  refine xi_lcmp_lt (q1 := 3) (q := 6) 18 dX1_isNumber_2 rfl dX1_isNumber_3 (by decide) rfl rfl (lN_i' _) (by omega) (by omega) (by omega) (by omega) (fun hc2 => ?_) (fun hc2 => ?_)
  · refine xn_iconst (q := 19) 0 dX1_isNumber_18 rfl (by decide) ?_
    exact x_zret rfl (by decide) dX1_isNumber_19 ⟨by rw [decide_eq_false (by omega)]; rfl, rfl, rfl, rfl⟩
  · refine x_lload_n (q := 7) dX1_isNumber_6 rfl rfl ?_
    refine xn_ldc2 (q := 10) 12 dX1_isNumber_7 rfl cwX1_39 ?_
    refine xi_lcmp_gt (q1 := 11) (q := 14) 18 dX1_isNumber_10 rfl dX1_isNumber_11 (by decide) rfl rfl (lN_i' _) (by omega) (by omega) (by omega) (by omega) (fun hc10 => ?_) (fun hc10 => ?_)
    · refine xn_iconst (q := 19) 0 dX1_isNumber_18 rfl (by decide) ?_
      exact x_zret rfl (by decide) dX1_isNumber_19 ⟨by rw [decide_eq_false (by omega)]; rfl, rfl, rfl, rfl⟩
    · refine xn_iconst (q := 15) 1 dX1_isNumber_14 rfl (by decide) ?_
      refine x_goto 19 dX1_isNumber_15 (by decide) ?_
      exact x_zret rfl (by decide) dX1_isNumber_19 ⟨by rw [decide_eq_true (by omega)]; rfl, rfl, rfl, rfl⟩

set_option maxRecDepth 100000 in
set_option maxHeartbeats 4000000 in
theorem b_clear (G : xG) (l : Launch) (ad : Nat → Nat) (F : xM) (R : Nat × Nat) (d : Nat) (σ : cZ) : cC G l ad F R YX1_clear (d + 1) [.ref (ad 2)] σ (fun r σ' => r = none ∧ kp [2, 20, 21, 22, 23, 24, 25] σ σ' ∧ Bm σ' 2 ((0, fun _ => 1, fun _ => 1, fun _ => false, fun _ => false, fun _ => false, fun _ => 0) : mCf)) := by
  refine cC.of (ls := [(0, .ref (ad 2))]) (by decide) (Nat.le_of_ble_eq_true rfl) rfl fun M N S hM => ?_
  have loop2 : ∀ (u i : Nat) (σ1 : cZ) (M : xM) (N S : Nat), i + u = 4 → kp [2, 20, 21, 22, 23, 24, 25] σ σ1 → (σ1 2).1 6 = nI 0 → (∀ j, j < 3 → (σ1 20).2.1 j = lN 1) → (∀ j, j < 3 → (σ1 21).2.1 j = lN 1) → (∀ j, j < 4 → (σ1 25).2.1 j = lN 0) → (∀ j, j < 6 → (σ1 22).1 j = nI 0) → (∀ j, j < i → (σ1 23).1 j = nI 0 ∧ (σ1 24).1 j = nI 0) → cA G ad F R σ1 M N S → xX G l YX1_clear (d + 1) (cQ G ad F R (fun r σ' => r = none ∧ kp [2, 20, 21, 22, 23, 24, 25] σ σ' ∧ Bm σ' 2 ((0, fun _ => 1, fun _ => 1, fun _ => false, fun _ => false, fun _ => false, fun _ => 0) : mCf))) 55 [(0, .ref (ad 2)), (1, .int (nI i))] [] M N S := by
    intro u
    induction u with
    | zero =>
      intro i σ1 M N S hi k1 k2 k3 k4 k5 k6 k7 hM

      refine x_iload_n (q := 56) dX1_clear_55 rfl rfl ?_
      refine x_aload_n (q := 57) dX1_clear_56 rfl rfl ?_
      refine c_get (q := 60) (k := 2) (f := 3) hM rfl xclX1 fwX1_20 (by decide) dX1_clear_57 rfl rfl ?_
      refine x_alen (q := 61) (nI 4) 2 dX1_clear_60 rfl (hM.arr (k := 23) rfl (by decide)) rfl rfl ?_
      refine xn_icmp_ge (q := 64) 84 dX1_clear_61 (by decide) rfl (by omega) (by omega) (fun hc61 => ?_) (fun hc61 => absurd hc61 (by omega))
      exact x_vret rfl dX1_clear_84 (c_ret hM ⟨rfl, k1, by decide, k2, k3, k4, k6, fun k hk => (k7 k (by omega)).1, fun k hk => (k7 k (by omega)).2, k5⟩)

    | succ u ih =>
      intro i σ1 M N S hi k1 k2 k3 k4 k5 k6 k7 hM

      refine x_iload_n (q := 56) dX1_clear_55 rfl rfl ?_
      refine x_aload_n (q := 57) dX1_clear_56 rfl rfl ?_
      refine c_get (q := 60) (k := 2) (f := 3) hM rfl xclX1 fwX1_20 (by decide) dX1_clear_57 rfl rfl ?_
      refine x_alen (q := 61) (nI 4) 2 dX1_clear_60 rfl (hM.arr (k := 23) rfl (by decide)) rfl rfl ?_
      refine xn_icmp_ge (q := 64) 84 dX1_clear_61 (by decide) rfl (by omega) (by omega) (fun hc61 => absurd hc61 (by omega)) (fun hc61 => ?_)
      refine x_aload_n (q := 65) dX1_clear_64 rfl rfl ?_
      refine c_get (q := 68) (k := 2) (f := 3) hM rfl xclX1 fwX1_20 (by decide) dX1_clear_65 rfl rfl ?_
      refine x_iload_n (q := 69) dX1_clear_68 rfl rfl ?_
      refine xn_iconst (q := 70) 0 dX1_clear_69 rfl (by decide) ?_
      refine c_zast (q := 71) (k := 23) (n := 4) hM (by decide) (fun _ => rfl) (by decide) dX1_clear_70 rfl (by omega) (by decide) (fun M σ70 a70 e70 b70 hM => ?_)
      refine x_aload_n (q := 72) dX1_clear_71 rfl rfl ?_
      refine c_get (q := 75) (k := 2) (f := 4) hM rfl xclX1 fwX1_23 (by decide) dX1_clear_72 rfl rfl ?_
      refine x_iload_n (q := 76) dX1_clear_75 rfl rfl ?_
      refine xn_iconst (q := 77) 0 dX1_clear_76 rfl (by decide) ?_
      refine c_zast (q := 78) (k := 24) (n := 4) hM (by decide) (fun _ => rfl) (by decide) dX1_clear_77 rfl (by omega) (by decide) (fun M σ77 a77 e77 b77 hM => ?_)
      refine xn_iinc (q := 81) (ls' := [(0, _), (1, _)]) [1, 0] 1 dX1_clear_78 rfl rfl (by decide) (by decide) rfl ?_
      refine x_goto 55 dX1_clear_81 (by decide) ?_
      refine ih (i + 1) σ77 M N S (by omega) (k1.trans ((a70.mono (by decide)).trans (a77.mono (by decide)))) (by rw [a77 2 (by decide), a70 2 (by decide)]; exact k2) (fun j hj => by rw [a77 20 (by decide), a70 20 (by decide)]; exact k3 j hj) (fun j hj => by rw [a77 21 (by decide), a70 21 (by decide)]; exact k4 j hj) (fun j hj => by rw [a77 25 (by decide), a70 25 (by decide)]; exact k5 j hj) (fun j hj => by rw [a77 22 (by decide), a70 22 (by decide)]; exact k6 j hj) (fun j hj => ?_) hM
      rw [a77 23 (by decide), e70, e77, a70 24 (by decide)]
      by_cases ej : j = i
      · rw [ej]; simp only [upd, if_true]; exact ⟨trivial, trivial⟩
      · simp only [upd, if_neg ej]; exact k7 j (by omega)

  have loop1 : ∀ (u i : Nat) (σ1 : cZ) (M : xM) (N S : Nat), i + u = 6 → kp [2, 20, 21, 22, 23, 24, 25] σ σ1 → (σ1 2).1 6 = nI 0 → (∀ j, j < 3 → (σ1 20).2.1 j = lN 1) → (∀ j, j < 3 → (σ1 21).2.1 j = lN 1) → (∀ j, j < 4 → (σ1 25).2.1 j = lN 0) → (∀ j, j < i → (σ1 22).1 j = nI 0) → cA G ad F R σ1 M N S → xX G l YX1_clear (d + 1) (cQ G ad F R (fun r σ' => r = none ∧ kp [2, 20, 21, 22, 23, 24, 25] σ σ' ∧ Bm σ' 2 ((0, fun _ => 1, fun _ => 1, fun _ => false, fun _ => false, fun _ => false, fun _ => 0) : mCf))) 31 [(0, .ref (ad 2)), (1, .int (nI i))] [] M N S := by
    intro u
    induction u with
    | zero =>
      intro i σ1 M N S hi k1 k2 k3 k4 k5 k6 hM

      refine x_iload_n (q := 32) dX1_clear_31 rfl rfl ?_
      refine x_aload_n (q := 33) dX1_clear_32 rfl rfl ?_
      refine c_get (q := 36) (k := 2) (f := 2) hM rfl xclX1 fwX1_16 (by decide) dX1_clear_33 rfl rfl ?_
      refine x_alen (q := 37) (nI 6) 2 dX1_clear_36 rfl (hM.arr (k := 22) rfl (by decide)) rfl rfl ?_
      refine xn_icmp_ge (q := 40) 53 dX1_clear_37 (by decide) rfl (by omega) (by omega) (fun hc37 => ?_) (fun hc37 => absurd hc37 (by omega))
      refine xn_iconst (q := 54) 0 dX1_clear_53 rfl (by decide) ?_
      refine x_istore_n (q := 55) (ls' := [(0, _), (1, _)]) [1, 0] dX1_clear_54 rfl (by decide) rfl ?_
      exact loop2 4 0 σ1 M N S (by decide) k1 k2 k3 k4 k5 (fun j hj => k6 j (by omega)) (fun j hj => absurd hj (Nat.not_lt_zero j)) hM

    | succ u ih =>
      intro i σ1 M N S hi k1 k2 k3 k4 k5 k6 hM

      refine x_iload_n (q := 32) dX1_clear_31 rfl rfl ?_
      refine x_aload_n (q := 33) dX1_clear_32 rfl rfl ?_
      refine c_get (q := 36) (k := 2) (f := 2) hM rfl xclX1 fwX1_16 (by decide) dX1_clear_33 rfl rfl ?_
      refine x_alen (q := 37) (nI 6) 2 dX1_clear_36 rfl (hM.arr (k := 22) rfl (by decide)) rfl rfl ?_
      refine xn_icmp_ge (q := 40) 53 dX1_clear_37 (by decide) rfl (by omega) (by omega) (fun hc37 => absurd hc37 (by omega)) (fun hc37 => ?_)
      refine x_aload_n (q := 41) dX1_clear_40 rfl rfl ?_
      refine c_get (q := 44) (k := 2) (f := 2) hM rfl xclX1 fwX1_16 (by decide) dX1_clear_41 rfl rfl ?_
      refine x_iload_n (q := 45) dX1_clear_44 rfl rfl ?_
      refine xn_iconst (q := 46) 0 dX1_clear_45 rfl (by decide) ?_
      refine c_zast (q := 47) (k := 22) (n := 6) hM (by decide) (fun _ => rfl) (by decide) dX1_clear_46 rfl (by omega) (by decide) (fun M σ46 a46 e46 b46 hM => ?_)
      refine xn_iinc (q := 50) (ls' := [(0, _), (1, _)]) [1, 0] 1 dX1_clear_47 rfl rfl (by decide) (by decide) rfl ?_
      refine x_goto 31 dX1_clear_50 (by decide) ?_
      refine ih (i + 1) σ46 M N S (by omega) (k1.trans (a46.mono (by decide))) (by rw [a46 2 (by decide)]; exact k2) (fun j hj => by rw [a46 20 (by decide)]; exact k3 j hj) (fun j hj => by rw [a46 21 (by decide)]; exact k4 j hj) (fun j hj => by rw [a46 25 (by decide)]; exact k5 j hj) (fun j hj => ?_) hM
      rw [e46]
      by_cases ej : j = i
      · rw [ej]; simp only [upd, if_true]
      · simp only [upd, if_neg ej]; exact k6 j (by omega)

  refine x_aload_n (q := 1) dX1_clear_0 rfl rfl ?_
  refine xn_iconst (q := 2) 0 dX1_clear_1 rfl (by decide) ?_
  refine c_puti (q := 5) (k := 2) (f := 6) hM rfl rfl xclX1 fwX1_35 (by decide) rfl rfl (Nat.le_of_ble_eq_true rfl) dX1_clear_2 rfl rfl rfl (fun M σ2 a2 e2 b2 hM => ?_)
  refine x_aload_n (q := 6) dX1_clear_5 rfl rfl ?_
  refine c_get (q := 9) (k := 2) (f := 0) hM rfl xclX1 fwX1_9 (by decide) dX1_clear_6 rfl rfl ?_
  refine xn_lconst (q := 10) 1 dX1_clear_9 rfl (by decide) ?_
  refine c_callS (q := 13) (As := [_, _]) hM imJ7_fill_d0a16 isJ7_fill_d0a16 mwX1_29 dX1_clear_10 rfl rfl rfl (Nat.le_of_ble_eq_true rfl) ?_
  refine (b_fill G l ad F R d σ2 20 3 (lN 1) (by decide) (fun _ => rfl) (by decide)).mono (fun x9 σ10 hp => ?_)
  obtain ⟨rfl, k10, f10, g10⟩ := hp
  intro M N S hM
  show xX G l _ (d + 1) _ _ _ _ M N S
  refine x_aload_n (q := 14) dX1_clear_13 rfl rfl ?_
  refine c_get (q := 17) (k := 2) (f := 1) hM rfl xclX1 fwX1_13 (by decide) dX1_clear_14 rfl rfl ?_
  refine xn_lconst (q := 18) 1 dX1_clear_17 rfl (by decide) ?_
  refine c_callS (q := 21) (As := [_, _]) hM imJ7_fill_d0a16 isJ7_fill_d0a16 mwX1_29 dX1_clear_18 rfl rfl rfl (Nat.le_of_ble_eq_true rfl) ?_
  refine (b_fill G l ad F R d σ10 21 3 (lN 1) (by decide) (fun _ => rfl) (by decide)).mono (fun x9 σ18 hp => ?_)
  obtain ⟨rfl, k18, f18, g18⟩ := hp
  intro M N S hM
  show xX G l _ (d + 1) _ _ _ _ M N S
  refine x_aload_n (q := 22) dX1_clear_21 rfl rfl ?_
  refine c_get (q := 25) (k := 2) (f := 5) hM rfl xclX1 fwX1_26 (by decide) dX1_clear_22 rfl rfl ?_
  refine xn_lconst (q := 26) 0 dX1_clear_25 rfl (by decide) ?_
  refine c_callS (q := 29) (As := [_, _]) hM imJ7_fill_d0a16 isJ7_fill_d0a16 mwX1_29 dX1_clear_26 rfl rfl rfl (Nat.le_of_ble_eq_true rfl) ?_
  refine (b_fill G l ad F R d σ18 25 4 (lN 0) (by decide) (fun _ => rfl) (by decide)).mono (fun x9 σ26 hp => ?_)
  obtain ⟨rfl, k26, f26, g26⟩ := hp
  intro M N S hM
  show xX G l _ (d + 1) _ _ _ _ M N S
  refine xn_iconst (q := 30) 0 dX1_clear_29 rfl (by decide) ?_
  refine x_istore_n (q := 31) (ls' := [(0, _), (1, _)]) [1, 0] dX1_clear_30 rfl (by decide) rfl ?_
  exact loop1 6 0 σ26 M N S (by decide) ((a2.mono (by decide)).trans ((k10.mono (by decide)).trans ((k18.mono (by decide)).trans (k26.mono (by decide))))) (by rw [k26 2 (by decide), k18 2 (by decide), k10 2 (by decide), e2, mu_s]) (fun j hj => by rw [k26 20 (by decide), k18 20 (by decide)]; exact f10 j hj) (fun j hj => by rw [k26 21 (by decide)]; exact f18 j hj) f26 (fun j hj => absurd hj (Nat.not_lt_zero j)) hM

set_option maxRecDepth 100000 in
set_option maxHeartbeats 4000000 in
theorem b_btake (G : xG) (l : Launch) (ad : Nat → Nat) (F : xM) (R : Nat × Nat) (d : Nat) (σ : cZ) (c : mCf) (hc : Bm σ 2 c) : cC G l ad F R YX1_take (d + 1) [.ref (ad 1), .ref (ad 2)] σ (fun r σ' => r = none ∧ kp [1, 14, 15, 16, 17, 18, 19] σ σ' ∧ Bm σ' 1 c) := by
  obtain ⟨h0, h1, h2, h3, h4, h5, h6, h7⟩ := hc
  refine cC.of (ls := [(0, .ref (ad 1)), (1, .ref (ad 2))]) (by decide) (Nat.le_of_ble_eq_true rfl) rfl fun M N S hM => ?_

  have loop3 : ∀ (u i : Nat) (σ1 : cZ) (M : xM) (N S : Nat), i + u = 4 → kp [1, 14, 15, 16, 17, 18, 19] σ σ1 → (σ1 1).1 6 = nI c.m → (∀ j, j < 3 → (σ1 14).2.1 j = lN (c.L j)) → (∀ j, j < 3 → (σ1 15).2.1 j = lN (c.E j)) → (∀ j, j < 6 → (σ1 16).1 j = bI (c.Hg j)) → (∀ j, j < i → (σ1 17).1 j = bI (c.Hi j)) → (∀ j, j < i → (σ1 18).1 j = bI (c.Tu j)) → (∀ j, j < i → (σ1 19).2.1 j = iL (c.Se j)) → cA G ad F R σ1 M N S → xX G l YX1_take (d + 1) (cQ G ad F R (fun r σ' => r = none ∧ kp [1, 14, 15, 16, 17, 18, 19] σ σ' ∧ Bm σ' 1 c)) 73 [(0, .ref (ad 1)), (1, .ref (ad 2)), (2, .int (nI i))] [] M N S := by
    intro u
    induction u with
    | zero =>
      intro i σ1 M N S hi k1 k2 k3 k4 k5 k6 k7 k8 hM

      refine x_iload_n (q := 74) dX1_take_73 rfl rfl ?_
      refine xn_iconst (q := 75) 3 dX1_take_74 rfl (by decide) ?_
      refine xn_icmp_gt (q := 78) 120 dX1_take_75 (by decide) rfl (by omega) (by omega) (fun hc75 => ?_) (fun hc75 => absurd hc75 (by omega))
      exact x_vret rfl dX1_take_120 (c_ret hM ⟨rfl, k1, h0, k2, k3, k4, k5, fun k hk => k6 k (by omega), fun k hk => k7 k (by omega), fun k hk => k8 k (by omega)⟩)

    | succ u ih =>
      intro i σ1 M N S hi k1 k2 k3 k4 k5 k6 k7 k8 hM

      refine x_iload_n (q := 74) dX1_take_73 rfl rfl ?_
      refine xn_iconst (q := 75) 3 dX1_take_74 rfl (by decide) ?_
      refine xn_icmp_gt (q := 78) 120 dX1_take_75 (by decide) rfl (by omega) (by omega) (fun hc75 => absurd hc75 (by omega)) (fun hc75 => ?_)
      refine x_aload_n (q := 79) dX1_take_78 rfl rfl ?_
      refine c_get (q := 82) (k := 1) (f := 3) hM rfl xclX1 fwX1_20 (by decide) dX1_take_79 rfl rfl ?_
      refine x_iload_n (q := 83) dX1_take_82 rfl rfl ?_
      refine x_aload_n (q := 84) dX1_take_83 rfl rfl ?_
      refine c_get (q := 87) (k := 2) (f := 3) hM rfl xclX1 fwX1_20 (by decide) dX1_take_84 rfl rfl ?_
      refine x_iload_n (q := 88) dX1_take_87 rfl rfl ?_
      refine c_zald (q := 89) (k := 23) (n := 4) hM rfl (by decide) (by decide) dX1_take_88 rfl (by omega) ?_
      refine x_topi (y := bI (c.Hi i)) (by rw [k1 23 (by decide)]; exact h5 i (by omega)) ?_
      refine c_zast (q := 90) (k := 17) (n := 4) hM (by decide) (fun _ => rfl) (by decide) dX1_take_89 rfl (by omega) (bI_v _) (fun M σ89 a89 e89 b89 hM => ?_)
      refine x_aload_n (q := 91) dX1_take_90 rfl rfl ?_
      refine c_get (q := 94) (k := 1) (f := 4) hM rfl xclX1 fwX1_23 (by decide) dX1_take_91 rfl rfl ?_
      refine x_iload_n (q := 95) dX1_take_94 rfl rfl ?_
      refine x_aload_n (q := 96) dX1_take_95 rfl rfl ?_
      refine c_get (q := 99) (k := 2) (f := 4) hM rfl xclX1 fwX1_23 (by decide) dX1_take_96 rfl rfl ?_
      refine x_iload_n (q := 100) dX1_take_99 rfl rfl ?_
      refine c_zald (q := 101) (k := 24) (n := 4) hM rfl (by decide) (by decide) dX1_take_100 rfl (by omega) ?_
      refine x_topi (y := bI (c.Tu i)) (by rw [a89 24 (by decide), k1 24 (by decide)]; exact h6 i (by omega)) ?_
      refine c_zast (q := 102) (k := 18) (n := 4) hM (by decide) (fun _ => rfl) (by decide) dX1_take_101 rfl (by omega) (bI_v _) (fun M σ101 a101 e101 b101 hM => ?_)
      refine x_aload_n (q := 103) dX1_take_102 rfl rfl ?_
      refine c_get (q := 106) (k := 1) (f := 5) hM rfl xclX1 fwX1_26 (by decide) dX1_take_103 rfl rfl ?_
      refine x_iload_n (q := 107) dX1_take_106 rfl rfl ?_
      refine x_aload_n (q := 108) dX1_take_107 rfl rfl ?_
      refine c_get (q := 111) (k := 2) (f := 5) hM rfl xclX1 fwX1_26 (by decide) dX1_take_108 rfl rfl ?_
      refine x_iload_n (q := 112) dX1_take_111 rfl rfl ?_
      refine c_lald (q := 113) (k := 25) (n := 4) hM rfl (by decide) (by decide) dX1_take_112 rfl (by omega) ?_
      refine x_topl (y := iL (c.Se i)) (by rw [a101 25 (by decide), a89 25 (by decide), k1 25 (by decide)]; exact h7 i (by omega)) ?_
      refine c_last (q := 114) (k := 19) (n := 4) hM (by decide) (fun _ => rfl) (by decide) dX1_take_113 rfl (by omega) (fun M σ113 a113 e113 b113 hM => ?_)
      refine xn_iinc (q := 117) (ls' := [(0, _), (1, _), (2, _)]) [1, 2, 0] 1 dX1_take_114 rfl rfl (by decide) (by decide) rfl ?_
      refine x_goto 73 dX1_take_117 (by decide) ?_
      refine ih (i + 1) σ113 M N S (by omega) (((k1.trans (a89.mono (by decide))).trans (a101.mono (by decide))).trans (a113.mono (by decide))) (by rw [a113 1 (by decide), a101 1 (by decide), a89 1 (by decide)]; exact k2) (fun j hj => by rw [a113 14 (by decide), a101 14 (by decide), a89 14 (by decide)]; exact k3 j hj) (fun j hj => by rw [a113 15 (by decide), a101 15 (by decide), a89 15 (by decide)]; exact k4 j hj) (fun j hj => by rw [a113 16 (by decide), a101 16 (by decide), a89 16 (by decide)]; exact k5 j hj) (fun j hj => ?_) (fun j hj => ?_) (fun j hj => ?_) hM
      · rw [a113 17 (by decide), a101 17 (by decide), e89]
        by_cases ej : j = i
        · rw [ej]; simp [upd]
        · simp only [upd, if_neg ej]; exact k6 j (by omega)
      · rw [a113 18 (by decide), e101, a89 18 (by decide)]
        by_cases ej : j = i
        · rw [ej]; simp [upd]
        · simp only [upd, if_neg ej]; exact k7 j (by omega)
      · rw [e113, a101 19 (by decide), a89 19 (by decide)]
        by_cases ej : j = i
        · rw [ej]; simp [vp_updL]
        · simp only [vp_updL, if_neg ej]; exact k8 j (by omega)

  have loop2 : ∀ (u i : Nat) (σ1 : cZ) (M : xM) (N S : Nat), i + u = 6 → kp [1, 14, 15, 16, 17, 18, 19] σ σ1 → (σ1 1).1 6 = nI c.m → (∀ j, j < 3 → (σ1 14).2.1 j = lN (c.L j)) → (∀ j, j < 3 → (σ1 15).2.1 j = lN (c.E j)) → (∀ j, j < i → (σ1 16).1 j = bI (c.Hg j)) → cA G ad F R σ1 M N S → xX G l YX1_take (d + 1) (cQ G ad F R (fun r σ' => r = none ∧ kp [1, 14, 15, 16, 17, 18, 19] σ σ' ∧ Bm σ' 1 c)) 47 [(0, .ref (ad 1)), (1, .ref (ad 2)), (2, .int (nI i))] [] M N S := by
    intro u
    induction u with
    | zero =>
      intro i σ1 M N S hi k1 k2 k3 k4 k5 hM

      refine x_iload_n (q := 48) dX1_take_47 rfl rfl ?_
      refine xn_bipush (q := 50) 6 dX1_take_48 rfl (by decide) ?_
      refine xn_icmp_ge (q := 53) 71 dX1_take_50 (by decide) rfl (by omega) (by omega) (fun hc50 => ?_) (fun hc50 => absurd hc50 (by omega))
      refine xn_iconst (q := 72) 0 dX1_take_71 rfl (by decide) ?_
      refine x_istore_n (q := 73) (ls' := [(0, _), (1, _), (2, _)]) [1, 2, 0] dX1_take_72 rfl (by decide) rfl ?_
      exact loop3 4 0 σ1 M N S (by decide) k1 k2 k3 k4 (fun j hj => k5 j (by omega)) (fun j hj => absurd hj (Nat.not_lt_zero j)) (fun j hj => absurd hj (Nat.not_lt_zero j)) (fun j hj => absurd hj (Nat.not_lt_zero j)) hM

    | succ u ih =>
      intro i σ1 M N S hi k1 k2 k3 k4 k5 hM

      refine x_iload_n (q := 48) dX1_take_47 rfl rfl ?_
      refine xn_bipush (q := 50) 6 dX1_take_48 rfl (by decide) ?_
      refine xn_icmp_ge (q := 53) 71 dX1_take_50 (by decide) rfl (by omega) (by omega) (fun hc50 => absurd hc50 (by omega)) (fun hc50 => ?_)
      refine x_aload_n (q := 54) dX1_take_53 rfl rfl ?_
      refine c_get (q := 57) (k := 1) (f := 2) hM rfl xclX1 fwX1_16 (by decide) dX1_take_54 rfl rfl ?_
      refine x_iload_n (q := 58) dX1_take_57 rfl rfl ?_
      refine x_aload_n (q := 59) dX1_take_58 rfl rfl ?_
      refine c_get (q := 62) (k := 2) (f := 2) hM rfl xclX1 fwX1_16 (by decide) dX1_take_59 rfl rfl ?_
      refine x_iload_n (q := 63) dX1_take_62 rfl rfl ?_
      refine c_zald (q := 64) (k := 22) (n := 6) hM rfl (by decide) (by decide) dX1_take_63 rfl (by omega) ?_
      refine x_topi (y := bI (c.Hg i)) (by rw [k1 22 (by decide)]; exact h4 i (by omega)) ?_
      refine c_zast (q := 65) (k := 16) (n := 6) hM (by decide) (fun _ => rfl) (by decide) dX1_take_64 rfl (by omega) (bI_v _) (fun M σ64 a64 e64 b64 hM => ?_)
      refine xn_iinc (q := 68) (ls' := [(0, _), (1, _), (2, _)]) [1, 2, 0] 1 dX1_take_65 rfl rfl (by decide) (by decide) rfl ?_
      refine x_goto 47 dX1_take_68 (by decide) ?_
      refine ih (i + 1) σ64 M N S (by omega) (k1.trans (a64.mono (by decide))) (by rw [a64 1 (by decide)]; exact k2) (fun j hj => by rw [a64 14 (by decide)]; exact k3 j hj) (fun j hj => by rw [a64 15 (by decide)]; exact k4 j hj) (fun j hj => ?_) hM
      · rw [e64]
        by_cases ej : j = i
        · rw [ej]; simp [upd]
        · simp only [upd, if_neg ej]; exact k5 j (by omega)

  have loop1 : ∀ (u i : Nat) (σ1 : cZ) (M : xM) (N S : Nat), i + u = 3 → kp [1, 14, 15, 16, 17, 18, 19] σ σ1 → (σ1 1).1 6 = nI c.m → (∀ j, j < i → (σ1 14).2.1 j = lN (c.L j)) → (∀ j, j < i → (σ1 15).2.1 j = lN (c.E j)) → cA G ad F R σ1 M N S → xX G l YX1_take (d + 1) (cQ G ad F R (fun r σ' => r = none ∧ kp [1, 14, 15, 16, 17, 18, 19] σ σ' ∧ Bm σ' 1 c)) 10 [(0, .ref (ad 1)), (1, .ref (ad 2)), (2, .int (nI i))] [] M N S := by
    intro u
    induction u with
    | zero =>
      intro i σ1 M N S hi k1 k2 k3 k4 hM

      refine x_iload_n (q := 11) dX1_take_10 rfl rfl ?_
      refine xn_iconst (q := 12) 3 dX1_take_11 rfl (by decide) ?_
      refine xn_icmp_ge (q := 15) 45 dX1_take_12 (by decide) rfl (by omega) (by omega) (fun hc12 => ?_) (fun hc12 => absurd hc12 (by omega))
      refine xn_iconst (q := 46) 0 dX1_take_45 rfl (by decide) ?_
      refine x_istore_n (q := 47) (ls' := [(0, _), (1, _), (2, _)]) [1, 2, 0] dX1_take_46 rfl (by decide) rfl ?_
      exact loop2 6 0 σ1 M N S (by decide) k1 k2 (fun j hj => k3 j (by omega)) (fun j hj => k4 j (by omega)) (fun j hj => absurd hj (Nat.not_lt_zero j)) hM

    | succ u ih =>
      intro i σ1 M N S hi k1 k2 k3 k4 hM

      refine x_iload_n (q := 11) dX1_take_10 rfl rfl ?_
      refine xn_iconst (q := 12) 3 dX1_take_11 rfl (by decide) ?_
      refine xn_icmp_ge (q := 15) 45 dX1_take_12 (by decide) rfl (by omega) (by omega) (fun hc12 => absurd hc12 (by omega)) (fun hc12 => ?_)
      refine x_aload_n (q := 16) dX1_take_15 rfl rfl ?_
      refine c_get (q := 19) (k := 1) (f := 0) hM rfl xclX1 fwX1_9 (by decide) dX1_take_16 rfl rfl ?_
      refine x_iload_n (q := 20) dX1_take_19 rfl rfl ?_
      refine x_aload_n (q := 21) dX1_take_20 rfl rfl ?_
      refine c_get (q := 24) (k := 2) (f := 0) hM rfl xclX1 fwX1_9 (by decide) dX1_take_21 rfl rfl ?_
      refine x_iload_n (q := 25) dX1_take_24 rfl rfl ?_
      refine c_lald (q := 26) (k := 20) (n := 3) hM rfl (by decide) (by decide) dX1_take_25 rfl (by omega) ?_
      refine x_topl (y := lN (c.L i)) (by rw [k1 20 (by decide)]; exact h2 i (by omega)) ?_
      refine c_last (q := 27) (k := 14) (n := 3) hM (by decide) (fun _ => rfl) (by decide) dX1_take_26 rfl (by omega) (fun M σ26 a26 e26 b26 hM => ?_)
      refine x_aload_n (q := 28) dX1_take_27 rfl rfl ?_
      refine c_get (q := 31) (k := 1) (f := 1) hM rfl xclX1 fwX1_13 (by decide) dX1_take_28 rfl rfl ?_
      refine x_iload_n (q := 32) dX1_take_31 rfl rfl ?_
      refine x_aload_n (q := 33) dX1_take_32 rfl rfl ?_
      refine c_get (q := 36) (k := 2) (f := 1) hM rfl xclX1 fwX1_13 (by decide) dX1_take_33 rfl rfl ?_
      refine x_iload_n (q := 37) dX1_take_36 rfl rfl ?_
      refine c_lald (q := 38) (k := 21) (n := 3) hM rfl (by decide) (by decide) dX1_take_37 rfl (by omega) ?_
      refine x_topl (y := lN (c.E i)) (by rw [a26 21 (by decide), k1 21 (by decide)]; exact h3 i (by omega)) ?_
      refine c_last (q := 39) (k := 15) (n := 3) hM (by decide) (fun _ => rfl) (by decide) dX1_take_38 rfl (by omega) (fun M σ38 a38 e38 b38 hM => ?_)
      refine xn_iinc (q := 42) (ls' := [(0, _), (1, _), (2, _)]) [1, 2, 0] 1 dX1_take_39 rfl rfl (by decide) (by decide) rfl ?_
      refine x_goto 10 dX1_take_42 (by decide) ?_
      refine ih (i + 1) σ38 M N S (by omega) ((k1.trans (a26.mono (by decide))).trans (a38.mono (by decide))) (by rw [a38 1 (by decide), a26 1 (by decide)]; exact k2) (fun j hj => ?_) (fun j hj => ?_) hM
      · rw [a38 14 (by decide), e26]
        by_cases ej : j = i
        · rw [ej]; simp [vp_updL]
        · simp only [vp_updL, if_neg ej]; exact k3 j (by omega)
      · rw [e38, a26 15 (by decide)]
        by_cases ej : j = i
        · rw [ej]; simp [vp_updL]
        · simp only [vp_updL, if_neg ej]; exact k4 j (by omega)

  refine x_aload_n (q := 1) dX1_take_0 rfl rfl ?_
  refine x_aload_n (q := 2) dX1_take_1 rfl rfl ?_
  refine c_get (q := 5) (k := 2) (f := 6) hM rfl xclX1 fwX1_35 (by decide) dX1_take_2 rfl rfl ?_
  refine c_puti (q := 8) (k := 1) (f := 6) hM rfl rfl xclX1 fwX1_35 (by decide) rfl rfl (Nat.le_of_ble_eq_true rfl) dX1_take_5 rfl rfl rfl (fun M σ5 a5 e5 b5 hM => ?_)
  refine xn_iconst (q := 9) 0 dX1_take_8 rfl (by decide) ?_
  refine x_istore_n (q := 10) (ls' := [(0, _), (1, _), (2, _)]) [1, 2, 0] dX1_take_9 rfl (by decide) rfl ?_
  exact loop1 3 0 σ5 M N S (by decide) (a5.mono (by decide)) (by rw [e5, mu_s]; exact h1) (fun j hj => absurd hj (Nat.not_lt_zero j)) (fun j hj => absurd hj (Nat.not_lt_zero j)) hM

end XB2
