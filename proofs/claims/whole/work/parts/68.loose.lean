section XC3
def slG (fr sw : Nat → Bool) (A : Nat → Nat → Int) (s : Nat) : Nat → Bool
  | 0 => false
  | o + 1 => slG fr sw A s o || (fr o && (!sw o && decide (clP A s o ≠ 0)))
def slS (fr sw : Nat → Bool) (A : Nat → Nat → Int) (s : Nat) : Bool := if fr s = true ∧ sw s = true then slG fr sw A s 10 else fr s
def slE (c : mCf) (fr sw : Nat → Bool) (A : Nat → Nat → Int) (e : Int) : Bool := decide (0 ≤ e ∧ e < 2 * (c.m : Int)) && (!c.Hg e.toNat && slS fr sw A (esP c e.toNat))
def slP (c : mCf) (fr sw : Nat → Bool) (A : Nat → Nat → Int) (n : Nat) : Bool := slS fr sw A n || (slE c fr sw A (2 * (n : Int) - 1) || slE c fr sw A (2 * (n : Int)))

set_option maxRecDepth 100000 in
set_option maxHeartbeats 4000000 in
theorem b_isSlack (G : xG) (l : Launch) (ad : Nat → Nat) (F : xM) (R : Nat × Nat) (d : Nat) (σ : cZ) (fr sw : Nat → Bool) (A : Nat → Nat → Int) (hC : Cll σ A) (hfr : ∀ s, s < 10 → (σ 29).1 s = bI (fr s)) (hsw : ∀ s, s < 10 → (σ 30).1 s = bI (sw s)) (s : Nat) (hs : s < 10) : cC G l ad F R YX4_isSlack (d + 1) [.ref (ad 4), .int (nI s)] σ (fun r σ' => r = some (.int (bI (slS fr sw A s))) ∧ σ' = σ) := by
  have loop : fr s = true → sw s = true → ∀ (u o : Nat) (M : xM) (N S : Nat), o + u = 10 → slG fr sw A s o = false → cA G ad F R σ M N S → xX G l YX4_isSlack (d + 1) (cQ G ad F R (fun r σ' => r = some (.int (bI (slS fr sw A s))) ∧ σ' = σ)) 27 [(0, .ref (ad 4)), (1, .int (nI s)), (2, .int (nI o))] [] M N S := by
    intro h1 h2 u
    have hS : slS fr sw A s = slG fr sw A s 10 := if_pos ⟨h1, h2⟩
    induction u with
    | zero =>
      intro o M N S ho hg hM

      refine x_iload_n (q := 28) dX4_isSlack_27 rfl rfl ?_
      refine xn_bipush (q := 30) 10 dX4_isSlack_28 rfl (by decide) ?_
      refine xn_icmp_ge (q := 33) 71 dX4_isSlack_30 (by decide) rfl (by omega) (by omega) (fun hc30 => ?_) (fun hc30 => absurd hc30 (by omega))
      refine xn_iconst (q := 72) 0 dX4_isSlack_71 rfl (by decide) ?_
      exact x_zret rfl (by decide) dX4_isSlack_72 (c_ret hM ⟨by rw [hS, ← show o = 10 by omega, hg]; rfl, rfl⟩)

    | succ u ih =>
      intro o M N S ho hg hM
      have hst : slG fr sw A s (o + 1) = (slG fr sw A s o || (fr o && (!sw o && decide (clP A s o ≠ 0)))) := rfl
      have mono : slG fr sw A s (o + 1) = true → slG fr sw A s 10 = true := fun h => by
        have : ∀ v, slG fr sw A s (o + 1 + v) = true := by
          intro v
          induction v with
          | zero => exact h
          | succ v ihv => show (slG fr sw A s (o + 1 + v) || _) = true; rw [ihv]; rfl
        have h9 := this u
        rwa [show o + 1 + u = 10 by omega] at h9
      have cb := hC (max s o) (min s o) (by omega) (by omega)
      have cb0 := cb.choose_spec.2.2.1
      have sbd := sign_bd (A (max s o) (min s o))
      have tb := tri_bg (i := max s o) (j := min s o) (by omega) (by omega)

      refine x_iload_n (q := 28) dX4_isSlack_27 rfl rfl ?_
      refine xn_bipush (q := 30) 10 dX4_isSlack_28 rfl (by decide) ?_
      refine xn_icmp_ge (q := 33) 71 dX4_isSlack_30 (by decide) rfl (by omega) (by omega) (fun hc30 => absurd hc30 (by omega)) (fun hc30 => ?_)
      refine x_aload_n (q := 34) dX4_isSlack_33 rfl rfl ?_
      refine c_get (q := 37) (k := 4) (f := 3) hM rfl xclX4 fwX4_20 (by decide) dX4_isSlack_34 rfl rfl ?_
      refine x_iload_n (q := 38) dX4_isSlack_37 rfl rfl ?_
      refine c_zald (q := 39) (k := 29) (n := 10) hM rfl (by decide) (by decide) dX4_isSlack_38 rfl (by omega) ?_
      refine x_topi (y := bI (fr o)) (by exact hfr o (by omega)) ?_
      refine x_if_eq (q := 42) 65 dX4_isSlack_39 (by decide) rfl (fun hc39 => ?_) (fun hc39 => ?_)
      · refine xn_iinc (q := 68) (ls' := [(0, _), (1, _), (2, _)]) [1, 2, 0] 1 dX4_isSlack_65 rfl rfl (by decide) (by decide) rfl ?_
        refine x_goto 27 dX4_isSlack_68 (by decide) ?_
        exact ih (o + 1) M N S (by omega) (by rw [hst, hg, bI_eq.mp hc39]; rfl) hM
      · refine x_aload_n (q := 43) dX4_isSlack_42 rfl rfl ?_
        refine c_get (q := 46) (k := 4) (f := 4) hM rfl xclX4 fwX4_24 (by decide) dX4_isSlack_43 rfl rfl ?_
        refine x_iload_n (q := 47) dX4_isSlack_46 rfl rfl ?_
        refine c_zald (q := 48) (k := 30) (n := 10) hM rfl (by decide) (by decide) dX4_isSlack_47 rfl (by omega) ?_
        refine x_topi (y := bI (sw o)) (by exact hsw o (by omega)) ?_
        refine x_if_ne (q := 51) 65 dX4_isSlack_48 (by decide) rfl (fun hc48 => ?_) (fun hc48 => ?_)
        · refine xn_iinc (q := 68) (ls' := [(0, _), (1, _), (2, _)]) [1, 2, 0] 1 dX4_isSlack_65 rfl rfl (by decide) (by decide) rfl ?_
          refine x_goto 27 dX4_isSlack_68 (by decide) ?_
          exact ih (o + 1) M N S (by omega) (by rw [hst, hg, bI_ne.mp hc48]; cases fr o <;> rfl) hM
        · refine x_aload_n (q := 52) dX4_isSlack_51 rfl rfl ?_
          refine x_iload_n (q := 53) dX4_isSlack_52 rfl rfl ?_
          refine x_iload_n (q := 54) dX4_isSlack_53 rfl rfl ?_
          refine c_call (q := 57) (k := 4) (As := [_, _]) hM rfl imX4_cellOf ivX4_cellOf ilX4_cellOf mwX4_89 xciX4 dX4_isSlack_54 rfl rfl rfl (Nat.le_of_ble_eq_true rfl) ?_
          refine (b_cellOf G l ad F R d σ s o (by omega) (by omega)).mono (fun x9 σ9' hp => ?_)
          obtain ⟨rfl, e9⟩ := hp
          intro M N S hM
          rw [e9] at hM; clear e9 σ9'
          show xX G l _ (d + 1) _ _ _ _ M N S
          refine c_getN (q := 60) (k := (100 + tri (max s o) (min s o))) (f := 0) hM (cE_big _ _ tb) xclX2 fnX4_135 (by decide) dX4_isSlack_57 rfl rfl ?_
          refine x_topi (y := iI (A (max s o) (min s o)).sign) (by rw [cb0]; exact sg_iI _) ?_
          refine xi_if_eq (q := 63) 65 dX4_isSlack_60 (by decide) rfl rfl (by omega) (by omega) (fun hc60 => ?_) (fun hc60 => ?_)
          · refine xn_iinc (q := 68) (ls' := [(0, _), (1, _), (2, _)]) [1, 2, 0] 1 dX4_isSlack_65 rfl rfl (by decide) (by decide) rfl ?_
            refine x_goto 27 dX4_isSlack_68 (by decide) ?_
            exact ih (o + 1) M N S (by omega) (by rw [hst, hg, decide_eq_false (fun z => z (Int.sign_eq_zero_iff_zero.mp hc60))]; cases fr o <;> cases sw o <;> rfl) hM
          · refine xn_iconst (q := 64) 1 dX4_isSlack_63 rfl (by decide) ?_
            exact x_zret rfl (by decide) dX4_isSlack_64 (c_ret hM ⟨by rw [hS, mono (by rw [hst, bI_ne.mp hc39, bI_eq.mp hc48, decide_eq_true (show clP A s o ≠ 0 from fun z => hc60 (by unfold clP at z; rw [z]; rfl))]; cases slG fr sw A s o <;> rfl)]; rfl, rfl⟩)

  refine cC.of (ls := [(0, .ref (ad 4)), (1, .int (nI s))]) (by decide) (Nat.le_of_ble_eq_true rfl) rfl fun M N S hM => ?_

  refine x_aload_n (q := 1) dX4_isSlack_0 rfl rfl ?_
  refine c_get (q := 4) (k := 4) (f := 3) hM rfl xclX4 fwX4_20 (by decide) dX4_isSlack_1 rfl rfl ?_
  refine x_iload_n (q := 5) dX4_isSlack_4 rfl rfl ?_
  refine c_zald (q := 6) (k := 29) (n := 10) hM rfl (by decide) (by decide) dX4_isSlack_5 rfl (by omega) ?_
  refine x_topi (y := bI (fr s)) (by exact hfr s hs) ?_
  refine x_if_eq (q := 9) 18 dX4_isSlack_6 (by decide) rfl (fun hc6 => ?_) (fun hc6 => ?_)
  · refine x_aload_n (q := 19) dX4_isSlack_18 rfl rfl ?_
    refine c_get (q := 22) (k := 4) (f := 3) hM rfl xclX4 fwX4_20 (by decide) dX4_isSlack_19 rfl rfl ?_
    refine x_iload_n (q := 23) dX4_isSlack_22 rfl rfl ?_
    refine c_zald (q := 24) (k := 29) (n := 10) hM rfl (by decide) (by decide) dX4_isSlack_23 rfl (by omega) ?_
    refine x_topi (y := bI (fr s)) (by exact hfr s hs) ?_
    exact x_zret rfl (bI_n _) dX4_isSlack_24 (c_ret hM ⟨by rw [show slS fr sw A s = fr s from if_neg (fun z => by rw [bI_eq.mp hc6] at z; exact absurd z.1 (by decide))], rfl⟩)
  · refine x_aload_n (q := 10) dX4_isSlack_9 rfl rfl ?_
    refine c_get (q := 13) (k := 4) (f := 4) hM rfl xclX4 fwX4_24 (by decide) dX4_isSlack_10 rfl rfl ?_
    refine x_iload_n (q := 14) dX4_isSlack_13 rfl rfl ?_
    refine c_zald (q := 15) (k := 30) (n := 10) hM rfl (by decide) (by decide) dX4_isSlack_14 rfl (by omega) ?_
    refine x_topi (y := bI (sw s)) (by exact hsw s hs) ?_
    refine x_if_ne (q := 18) 25 dX4_isSlack_15 (by decide) rfl (fun hc15 => ?_) (fun hc15 => ?_)
    · refine xn_iconst (q := 26) 0 dX4_isSlack_25 rfl (by decide) ?_
      refine x_istore_n (q := 27) (ls' := [(0, _), (1, _), (2, _)]) [1, 2, 0] dX4_isSlack_26 rfl (by decide) rfl ?_
      exact loop (bI_ne.mp hc6) (bI_ne.mp hc15) 10 0 M N S (by decide) rfl hM
    · refine x_aload_n (q := 19) dX4_isSlack_18 rfl rfl ?_
      refine c_get (q := 22) (k := 4) (f := 3) hM rfl xclX4 fwX4_20 (by decide) dX4_isSlack_19 rfl rfl ?_
      refine x_iload_n (q := 23) dX4_isSlack_22 rfl rfl ?_
      refine c_zald (q := 24) (k := 29) (n := 10) hM rfl (by decide) (by decide) dX4_isSlack_23 rfl (by omega) ?_
      refine x_topi (y := bI (fr s)) (by exact hfr s hs) ?_
      exact x_zret rfl (bI_n _) dX4_isSlack_24 (c_ret hM ⟨by rw [show slS fr sw A s = fr s from if_neg (fun z => by rw [bI_eq.mp hc15] at z; exact absurd z.2 (by decide))], rfl⟩)

set_option maxRecDepth 100000 in
set_option maxHeartbeats 4000000 in
theorem b_isSlackEnd (G : xG) (l : Launch) (ad : Nat → Nat) (F : xM) (R : Nat × Nat) (d : Nat) (σ : cZ) (c : mCf) (hc : Bm σ 1 c) (hes : ∀ e, e < 2 * c.m → (σ 28).1 e = nI (esP c e)) (fr sw : Nat → Bool) (A : Nat → Nat → Int) (hC : Cll σ A) (hfr : ∀ s, s < 10 → (σ 29).1 s = bI (fr s)) (hsw : ∀ s, s < 10 → (σ 30).1 s = bI (sw s)) (e : Int) (he1 : -1 ≤ e) (he2 : e ≤ 6) : cC G l ad F R YX4_isSlackEnd (d + 2) [.ref (ad 4), .int (iI e)] σ (fun r σ' => r = some (.int (bI (slE c fr sw A e))) ∧ σ' = σ) := by
  obtain ⟨h0, h1, h2, h3, h4, h5, h6, h7⟩ := hc
  have s17 : ∀ (M : xM) (N S : Nat), 0 ≤ e → e < 2 * (c.m : Int) → cA G ad F R σ M N S → xX G l YX4_isSlackEnd (d + 2) (cQ G ad F R (fun r σ' => r = some (.int (bI (slE c fr sw A e))) ∧ σ' = σ)) 17 [(0, .ref (ad 4)), (1, .int (nI e.toNat))] [] M N S := by
    intro M N S g1 g2 hM
    have hE : slE c fr sw A e = (!c.Hg e.toNat && slS fr sw A (esP c e.toNat)) := by unfold slE; rw [decide_eq_true ⟨g1, g2⟩]; rfl
    have hl : e.toNat < 2 * c.m := by omega
    have hb := esP_lt (c := c) (e := e.toNat) (by omega)

    refine x_aload_n (q := 18) dX4_isSlackEnd_17 rfl rfl ?_
    refine c_get (q := 21) (k := 4) (f := 0) hM rfl xclX4 fwX4_54 (by decide) dX4_isSlackEnd_18 rfl rfl ?_
    refine c_get (q := 24) (k := 1) (f := 2) hM rfl xclX1 fwX4_113 (by decide) dX4_isSlackEnd_21 rfl rfl ?_
    refine x_iload_n (q := 25) dX4_isSlackEnd_24 rfl rfl ?_
    refine c_zald (q := 26) (k := 16) (n := 6) hM rfl (by decide) (by decide) dX4_isSlackEnd_25 rfl (by omega) ?_
    refine x_topi (y := bI (c.Hg e.toNat)) (by exact h4 _ (by omega)) ?_
    refine x_if_ne (q := 29) 46 dX4_isSlackEnd_26 (by decide) rfl (fun hc26 => ?_) (fun hc26 => ?_)
    · refine xn_iconst (q := 47) 0 dX4_isSlackEnd_46 rfl (by decide) ?_
      exact x_zret rfl (by decide) dX4_isSlackEnd_47 (c_ret hM ⟨by rw [hE, bI_ne.mp hc26]; rfl, rfl⟩)
    · refine x_aload_n (q := 30) dX4_isSlackEnd_29 rfl rfl ?_
      refine x_aload_n (q := 31) dX4_isSlackEnd_30 rfl rfl ?_
      refine c_get (q := 34) (k := 4) (f := 2) hM rfl xclX4 fwX4_17 (by decide) dX4_isSlackEnd_31 rfl rfl ?_
      refine x_iload_n (q := 35) dX4_isSlackEnd_34 rfl rfl ?_
      refine c_iald (q := 36) (k := 28) (n := 6) hM rfl (by decide) (by decide) dX4_isSlackEnd_35 rfl (by omega) ?_
      refine x_topi (y := nI (esP c e.toNat)) (by exact hes _ hl) ?_
      refine c_call (q := 39) (k := 4) (As := [_]) hM rfl imX4_isSlack ivX4_isSlack ilX4_isSlack mwX4_155 xciX4 dX4_isSlackEnd_36 rfl rfl rfl (Nat.le_of_ble_eq_true rfl) ?_
      refine (b_isSlack G l ad F R d σ fr sw A hC hfr hsw (esP c e.toNat) (by omega)).mono (fun x9 σ9' hp => ?_)
      obtain ⟨rfl, e9⟩ := hp
      intro M N S hM
      rw [e9] at hM; clear e9 σ9'
      show xX G l _ (d + 2) _ _ _ _ M N S
      refine x_if_eq (q := 42) 46 dX4_isSlackEnd_39 (by decide) rfl (fun hc39 => ?_) (fun hc39 => ?_)
      · refine xn_iconst (q := 47) 0 dX4_isSlackEnd_46 rfl (by decide) ?_
        exact x_zret rfl (by decide) dX4_isSlackEnd_47 (c_ret hM ⟨by rw [hE, bI_eq.mp hc39]; cases c.Hg e.toNat <;> rfl, rfl⟩)
      · refine xn_iconst (q := 43) 1 dX4_isSlackEnd_42 rfl (by decide) ?_
        refine x_goto 47 dX4_isSlackEnd_43 (by decide) ?_
        exact x_zret rfl (by decide) dX4_isSlackEnd_47 (c_ret hM ⟨by rw [hE, bI_eq.mp hc26, bI_ne.mp hc39]; rfl, rfl⟩)

  refine cC.of (ls := [(0, .ref (ad 4)), (1, .int (iI e))]) (by decide) (Nat.le_of_ble_eq_true rfl) rfl fun M N S hM => ?_

  refine x_iload_n (q := 1) dX4_isSlackEnd_0 rfl rfl ?_
  refine xi_if_lt (q := 4) 46 dX4_isSlackEnd_1 (by decide) rfl rfl (by omega) (by omega) (fun hc1 => ?_) (fun hc1 => ?_)
  · refine xn_iconst (q := 47) 0 dX4_isSlackEnd_46 rfl (by decide) ?_
    exact x_zret rfl (by decide) dX4_isSlackEnd_47 (c_ret hM ⟨by unfold slE; rw [decide_eq_false (by omega)]; rfl, rfl⟩)
  · refine x_iload_n (q := 5) dX4_isSlackEnd_4 rfl rfl ?_
    refine xn_iconst (q := 6) 2 dX4_isSlackEnd_5 rfl (by decide) ?_
    refine x_aload_n (q := 7) dX4_isSlackEnd_6 rfl rfl ?_
    refine c_get (q := 10) (k := 4) (f := 0) hM rfl xclX4 fwX4_54 (by decide) dX4_isSlackEnd_7 rfl rfl ?_
    refine c_get (q := 13) (k := 1) (f := 6) hM rfl xclX1 fwX4_97 (by decide) dX4_isSlackEnd_10 rfl rfl ?_
    refine x_topi (y := nI c.m) (by exact h1) ?_
    refine xn_imul (q := 14) dX4_isSlackEnd_13 rfl ?_
    refine xi_icmp_ge (q := 17) 46 dX4_isSlackEnd_14 (by decide) rfl rfl (nI_i _) (by omega) (by omega) (by omega) (by omega) (fun hc14 => ?_) (fun hc14 => ?_)
    · refine xn_iconst (q := 47) 0 dX4_isSlackEnd_46 rfl (by decide) ?_
      exact x_zret rfl (by decide) dX4_isSlackEnd_47 (c_ret hM ⟨by unfold slE; rw [decide_eq_false (by omega)]; rfl, rfl⟩)
    · rw [iI_nat (by omega)]
      exact s17 M N S (by omega) (by omega) hM

set_option maxRecDepth 100000 in
set_option maxHeartbeats 4000000 in
theorem b_findLoose (G : xG) (l : Launch) (ad : Nat → Nat) (F : xM) (R : Nat × Nat) (d : Nat) (σ : cZ) (c : mCf) (hc : Bm σ 1 c) (hes : ∀ e, e < 2 * c.m → (σ 28).1 e = nI (esP c e)) (fr sw : Nat → Bool) (A : Nat → Nat → Int) (hC : Cll σ A) (hfr : ∀ s, s < 10 → (σ 29).1 s = bI (fr s)) (hsw : ∀ s, s < 10 → (σ 30).1 s = bI (sw s)) : cC G l ad F R YX4_findLoose (d + 3) [.ref (ad 4)] σ (fun r σ' => r = none ∧ kp [31] σ σ' ∧ Slk σ' (slP c fr sw A)) := by
  refine cC.of (ls := [(0, .ref (ad 4))]) (by decide) (Nat.le_of_ble_eq_true rfl) rfl fun M N S hM => ?_
  have loop : ∀ (u i : Nat) (σ1 : cZ) (M : xM) (N S : Nat), i + u = 4 → kp [31] σ σ1 → (∀ k, k < i → (σ1 31).1 k = bI (slP c fr sw A k)) → cA G ad F R σ1 M N S → xX G l YX4_findLoose (d + 3) (cQ G ad F R (fun r σ' => r = none ∧ kp [31] σ σ' ∧ Slk σ' (slP c fr sw A))) 2 [(0, .ref (ad 4)), (1, .int (nI i))] [] M N S := by
    intro u
    induction u with
    | zero =>
      intro i σ1 M N S hi k1 k2 hM

      refine x_iload_n (q := 3) dX4_findLoose_2 rfl rfl ?_
      refine xn_iconst (q := 4) 4 dX4_findLoose_3 rfl (by decide) ?_
      refine xn_icmp_ge (q := 7) 54 dX4_findLoose_4 (by decide) rfl (by omega) (by omega) (fun hc4 => ?_) (fun hc4 => absurd hc4 (by omega))
      exact x_vret rfl dX4_findLoose_54 (c_ret hM ⟨rfl, k1, fun k hk => k2 k (by omega)⟩)

    | succ u ih =>
      intro i σ1 M N S hi k1 k2 hM
      have hc1 : Bm σ1 1 c := hc.kp k1 (by decide)
      have hC1 : Cll σ1 A := hC.keep k1 (fun j hj => by simp at hj; omega)
      have hfr1 : ∀ s, s < 10 → (σ1 29).1 s = bI (fr s) := by rw [k1 29 (by decide)]; exact hfr
      have hsw1 : ∀ s, s < 10 → (σ1 30).1 s = bI (sw s) := by rw [k1 30 (by decide)]; exact hsw
      have hes1 : ∀ e, e < 2 * c.m → (σ1 28).1 e = nI (esP c e) := by rw [k1 28 (by decide)]; exact hes
      have hu : slP c fr sw A i = (slS fr sw A i || (slE c fr sw A (2 * (i : Int) - 1) || slE c fr sw A (2 * (i : Int)))) := rfl

      refine x_iload_n (q := 3) dX4_findLoose_2 rfl rfl ?_
      refine xn_iconst (q := 4) 4 dX4_findLoose_3 rfl (by decide) ?_
      refine xn_icmp_ge (q := 7) 54 dX4_findLoose_4 (by decide) rfl (by omega) (by omega) (fun hc4 => absurd hc4 (by omega)) (fun hc4 => ?_)
      refine x_aload_n (q := 8) dX4_findLoose_7 rfl rfl ?_
      refine c_get (q := 11) (k := 4) (f := 5) hM rfl xclX4 fwX4_27 (by decide) dX4_findLoose_8 rfl rfl ?_
      refine x_iload_n (q := 12) dX4_findLoose_11 rfl rfl ?_
      refine x_aload_n (q := 13) dX4_findLoose_12 rfl rfl ?_
      refine x_iload_n (q := 14) dX4_findLoose_13 rfl rfl ?_
      refine c_call (q := 17) (k := 4) (As := [_]) hM rfl imX4_isSlack ivX4_isSlack ilX4_isSlack mwX4_155 xciX4 dX4_findLoose_14 rfl rfl rfl (Nat.le_of_ble_eq_true rfl) ?_
      refine (b_isSlack G l ad F R (d + 1) σ1 fr sw A hC1 hfr1 hsw1 i (by omega)).mono (fun x9 σ9' hp => ?_)
      obtain ⟨rfl, e9⟩ := hp
      intro M N S hM
      rw [e9] at hM; clear e9 σ9'
      show xX G l _ (d + 3) _ _ _ _ M N S
      refine x_if_ne (q := 20) 42 dX4_findLoose_17 (by decide) rfl (fun hc17 => ?_) (fun hc17 => ?_)
      · refine xn_iconst (q := 43) 1 dX4_findLoose_42 rfl (by decide) ?_
        refine x_goto 47 dX4_findLoose_43 (by decide) ?_
        refine c_zast (q := 48) (k := 31) (n := 4) hM (by decide) (fun _ => rfl) (by decide) dX4_findLoose_47 rfl (by omega) (by decide) (fun M σ47 a47 e47 b47 hM => ?_)
        refine xn_iinc (q := 51) (ls' := [(0, _), (1, _)]) [1, 0] 1 dX4_findLoose_48 rfl rfl (by decide) (by decide) rfl ?_
        refine x_goto 2 dX4_findLoose_51 (by decide) ?_
        have hval : slP c fr sw A i = true := by rw [hu, bI_ne.mp hc17]; rfl
        refine ih (i + 1) σ47 M N S (by omega) (k1.trans a47) (fun k hk => ?_) hM
        rw [e47]
        by_cases ek : k = i
        · rw [ek, hval]; simp only [upd, if_true]; rfl
        · simp only [upd, if_neg ek]; exact k2 k (by omega)
      · refine x_aload_n (q := 21) dX4_findLoose_20 rfl rfl ?_
        refine xn_iconst (q := 22) 2 dX4_findLoose_21 rfl (by decide) ?_
        refine x_iload_n (q := 23) dX4_findLoose_22 rfl rfl ?_
        refine xn_imul (q := 24) dX4_findLoose_23 rfl ?_
        refine xn_iconst (q := 25) 1 dX4_findLoose_24 rfl (by decide) ?_
        refine xi_isub (q := 26) dX4_findLoose_25 rfl (nI_i _) (nI_i _) ?_
        refine x_topi (y := iI (2 * (i : Int) - 1)) (by congr 1) ?_
        refine c_call (q := 29) (k := 4) (As := [_]) hM rfl imX4_isSlackEnd ivX4_isSlackEnd ilX4_isSlackEnd mwX4_159 xciX4 dX4_findLoose_26 rfl rfl rfl (Nat.le_of_ble_eq_true rfl) ?_
        refine (b_isSlackEnd G l ad F R d σ1 c hc1 hes1 fr sw A hC1 hfr1 hsw1 (2 * (i : Int) - 1) (by omega) (by omega)).mono (fun x9 σ9' hp => ?_)
        obtain ⟨rfl, e9⟩ := hp
        intro M N S hM
        rw [e9] at hM; clear e9 σ9'
        show xX G l _ (d + 3) _ _ _ _ M N S
        refine x_if_ne (q := 32) 42 dX4_findLoose_29 (by decide) rfl (fun hc29 => ?_) (fun hc29 => ?_)
        · refine xn_iconst (q := 43) 1 dX4_findLoose_42 rfl (by decide) ?_
          refine x_goto 47 dX4_findLoose_43 (by decide) ?_
          refine c_zast (q := 48) (k := 31) (n := 4) hM (by decide) (fun _ => rfl) (by decide) dX4_findLoose_47 rfl (by omega) (by decide) (fun M σ47 a47 e47 b47 hM => ?_)
          refine xn_iinc (q := 51) (ls' := [(0, _), (1, _)]) [1, 0] 1 dX4_findLoose_48 rfl rfl (by decide) (by decide) rfl ?_
          refine x_goto 2 dX4_findLoose_51 (by decide) ?_
          have hval : slP c fr sw A i = true := by rw [hu, bI_ne.mp hc29]; cases slS fr sw A i <;> rfl
          refine ih (i + 1) σ47 M N S (by omega) (k1.trans a47) (fun k hk => ?_) hM
          rw [e47]
          by_cases ek : k = i
          · rw [ek, hval]; simp only [upd, if_true]; rfl
          · simp only [upd, if_neg ek]; exact k2 k (by omega)
        · refine x_aload_n (q := 33) dX4_findLoose_32 rfl rfl ?_
          refine xn_iconst (q := 34) 2 dX4_findLoose_33 rfl (by decide) ?_
          refine x_iload_n (q := 35) dX4_findLoose_34 rfl rfl ?_
          refine xn_imul (q := 36) dX4_findLoose_35 rfl ?_
          refine x_topi (y := iI (2 * (i : Int))) (by rw [nI_i]; congr 1) ?_
          refine c_call (q := 39) (k := 4) (As := [_]) hM rfl imX4_isSlackEnd ivX4_isSlackEnd ilX4_isSlackEnd mwX4_159 xciX4 dX4_findLoose_36 rfl rfl rfl (Nat.le_of_ble_eq_true rfl) ?_
          refine (b_isSlackEnd G l ad F R d σ1 c hc1 hes1 fr sw A hC1 hfr1 hsw1 (2 * (i : Int)) (by omega) (by omega)).mono (fun x9 σ9' hp => ?_)
          obtain ⟨rfl, e9⟩ := hp
          intro M N S hM
          rw [e9] at hM; clear e9 σ9'
          show xX G l _ (d + 3) _ _ _ _ M N S
          refine x_if_eq (q := 42) 46 dX4_findLoose_39 (by decide) rfl (fun hc39 => ?_) (fun hc39 => ?_)
          · refine xn_iconst (q := 47) 0 dX4_findLoose_46 rfl (by decide) ?_
            refine c_zast (q := 48) (k := 31) (n := 4) hM (by decide) (fun _ => rfl) (by decide) dX4_findLoose_47 rfl (by omega) (by decide) (fun M σ47 a47 e47 b47 hM => ?_)
            refine xn_iinc (q := 51) (ls' := [(0, _), (1, _)]) [1, 0] 1 dX4_findLoose_48 rfl rfl (by decide) (by decide) rfl ?_
            refine x_goto 2 dX4_findLoose_51 (by decide) ?_
            have hval : slP c fr sw A i = false := by rw [hu, bI_eq.mp hc17, bI_eq.mp hc29, bI_eq.mp hc39]; rfl
            refine ih (i + 1) σ47 M N S (by omega) (k1.trans a47) (fun k hk => ?_) hM
            rw [e47]
            by_cases ek : k = i
            · rw [ek, hval]; simp only [upd, if_true]; rfl
            · simp only [upd, if_neg ek]; exact k2 k (by omega)
          · refine xn_iconst (q := 43) 1 dX4_findLoose_42 rfl (by decide) ?_
            refine x_goto 47 dX4_findLoose_43 (by decide) ?_
            refine c_zast (q := 48) (k := 31) (n := 4) hM (by decide) (fun _ => rfl) (by decide) dX4_findLoose_47 rfl (by omega) (by decide) (fun M σ47 a47 e47 b47 hM => ?_)
            refine xn_iinc (q := 51) (ls' := [(0, _), (1, _)]) [1, 0] 1 dX4_findLoose_48 rfl rfl (by decide) (by decide) rfl ?_
            refine x_goto 2 dX4_findLoose_51 (by decide) ?_
            have hval : slP c fr sw A i = true := by rw [hu, bI_ne.mp hc39]; cases slS fr sw A i <;> cases slE c fr sw A (2 * (i : Int) - 1) <;> rfl
            refine ih (i + 1) σ47 M N S (by omega) (k1.trans a47) (fun k hk => ?_) hM
            rw [e47]
            by_cases ek : k = i
            · rw [ek, hval]; simp only [upd, if_true]; rfl
            · simp only [upd, if_neg ek]; exact k2 k (by omega)

  refine xn_iconst (q := 1) 0 dX4_findLoose_0 rfl (by decide) ?_
  refine x_istore_n (q := 2) (ls' := [(0, _), (1, _)]) [1, 0] dX4_findLoose_1 rfl (by decide) rfl ?_
  exact loop 4 0 σ M N S (by decide) kp.rfl' (fun k hk => absurd hk (Nat.not_lt_zero k)) hM

end XC3
