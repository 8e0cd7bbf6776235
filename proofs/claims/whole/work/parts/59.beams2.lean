section XB3
def hgE (c : mCf) : Nat → Nat
  | 0 => 0
  | k + 1 => hgE c k + bN (c.Hg k)
theorem hgE_hgN (c : mCf) : ∀ k, hgE c (2 * k) = hgN c k
  | 0 => rfl
  | k + 1 => by
    show hgE c (2 * k) + bN (c.Hg (2 * k)) + bN (c.Hg (2 * k + 1)) = hgN c k + (bN (c.Hg (2 * k)) + bN (c.Hg (2 * k + 1)))
    rw [hgE_hgN c k]
    omega
theorem hgE_le (c : mCf) : ∀ k, hgE c k ≤ k
  | 0 => Nat.le_refl _
  | k + 1 => by
    have h1 := hgE_le c k
    have h2 := bN_le (c.Hg k)
    show hgE c k + bN (c.Hg k) ≤ k + 1
    omega
theorem hiN_le (c : mCf) : ∀ k, hiN c k ≤ k
  | 0 => Nat.le_refl _
  | k + 1 => by
    have h1 := hiN_le c k
    have h2 := bN_le (c.Hi k)
    show hiN c k + bN (c.Hi k) ≤ k + 1
    omega

set_option maxRecDepth 100000 in
set_option maxHeartbeats 4000000 in
theorem b_hinges (G : xG) (l : Launch) (ad : Nat → Nat) (F : xM) (R : Nat × Nat) (d : Nat) (σ : cZ) (c : mCf) (hc : Bm σ 1 c) : cC G l ad F R YX1_hinges d [.ref (ad 1)] σ (fun r σ' => r = some (.int (nI (hgE c (2 * c.m)))) ∧ σ' = σ) := by
  obtain ⟨h0, h1, h2, h3, h4, h5, h6, h7⟩ := hc
  refine cC.of (ls := [(0, .ref (ad 1))]) (by decide) (Nat.le_of_ble_eq_true rfl) rfl fun M N S hM => ?_
  have loop : ∀ (u i : Nat) (M : xM) (N S : Nat), i + u = 2 * c.m → cA G ad F R σ M N S → xX G l YX1_hinges d (cQ G ad F R (fun r σ' => r = some (.int (nI (hgE c (2 * c.m)))) ∧ σ' = σ)) 4 [(0, .ref (ad 1)), (1, .int (nI (hgE c i))), (2, .int (nI i))] [] M N S := by
    intro u
    induction u with
    | zero =>
      intro i M N S hi hM

      refine x_iload_n (q := 5) dX1_hinges_4 rfl rfl ?_
      refine xn_iconst (q := 6) 2 dX1_hinges_5 rfl (by decide) ?_
      refine x_aload_n (q := 7) dX1_hinges_6 rfl rfl ?_
      refine c_get (q := 10) (k := 1) (f := 6) hM rfl xclX1 fwX1_35 (by decide) dX1_hinges_7 rfl rfl ?_
      refine x_topi (y := nI c.m) (by exact h1) ?_
      refine xn_imul (q := 11) dX1_hinges_10 rfl ?_
      refine xn_icmp_ge (q := 14) 37 dX1_hinges_11 (by decide) rfl (by omega) (by omega) (fun hc11 => ?_) (fun hc11 => absurd hc11 (by omega))
      refine x_iload_n (q := 38) dX1_hinges_37 rfl rfl ?_
      exact x_iret rfl dX1_hinges_38 (c_ret hM ⟨by rw [show i = 2 * c.m by omega], rfl⟩)

    | succ u ih =>
      intro i M N S hi hM

      refine x_iload_n (q := 5) dX1_hinges_4 rfl rfl ?_
      refine xn_iconst (q := 6) 2 dX1_hinges_5 rfl (by decide) ?_
      refine x_aload_n (q := 7) dX1_hinges_6 rfl rfl ?_
      refine c_get (q := 10) (k := 1) (f := 6) hM rfl xclX1 fwX1_35 (by decide) dX1_hinges_7 rfl rfl ?_
      refine x_topi (y := nI c.m) (by exact h1) ?_
      refine xn_imul (q := 11) dX1_hinges_10 rfl ?_
      refine xn_icmp_ge (q := 14) 37 dX1_hinges_11 (by decide) rfl (by omega) (by omega) (fun hc11 => absurd hc11 (by omega)) (fun hc11 => ?_)
      refine x_iload_n (q := 15) dX1_hinges_14 rfl rfl ?_
      refine x_aload_n (q := 16) dX1_hinges_15 rfl rfl ?_
      refine c_get (q := 19) (k := 1) (f := 2) hM rfl xclX1 fwX1_16 (by decide) dX1_hinges_16 rfl rfl ?_
      refine x_iload_n (q := 20) dX1_hinges_19 rfl rfl ?_
      refine c_zald (q := 21) (k := 16) (n := 6) hM rfl (by decide) (by decide) dX1_hinges_20 rfl (by omega) ?_
      refine x_topi (y := bI (c.Hg i)) (by exact h4 i (by omega)) ?_
      refine x_if_eq (q := 24) 28 dX1_hinges_21 (by decide) rfl (fun hc21 => ?_) (fun hc21 => ?_)
      · refine xn_iconst (q := 29) 0 dX1_hinges_28 rfl (by decide) ?_
        refine xn_iadd (q := 30) dX1_hinges_29 rfl ?_
        refine x_istore_n (q := 31) (ls' := [(0, _), (1, _), (2, _)]) [1, 0, 2] dX1_hinges_30 rfl (by decide) rfl ?_
        refine xn_iinc (q := 34) (ls' := [(0, _), (1, _), (2, _)]) [1, 2, 0] 1 dX1_hinges_31 rfl rfl (by decide) (by decide) rfl ?_
        refine x_goto 4 dX1_hinges_34 (by decide) ?_
        have hb : hgE c (i + 1) = hgE c i + 0 := by show hgE c i + bN (c.Hg i) = _; rw [bI_eq.mp hc21]; rfl
        rw [← hb]
        exact ih (i + 1) M N S (by omega) hM
      · refine xn_iconst (q := 25) 1 dX1_hinges_24 rfl (by decide) ?_
        refine x_goto 29 dX1_hinges_25 (by decide) ?_
        refine xn_iadd (q := 30) dX1_hinges_29 rfl ?_
        refine x_istore_n (q := 31) (ls' := [(0, _), (1, _), (2, _)]) [1, 0, 2] dX1_hinges_30 rfl (by decide) rfl ?_
        refine xn_iinc (q := 34) (ls' := [(0, _), (1, _), (2, _)]) [1, 2, 0] 1 dX1_hinges_31 rfl rfl (by decide) (by decide) rfl ?_
        refine x_goto 4 dX1_hinges_34 (by decide) ?_
        have hb : hgE c (i + 1) = hgE c i + 1 := by show hgE c i + bN (c.Hg i) = _; rw [bI_ne.mp hc21]; rfl
        rw [← hb]
        exact ih (i + 1) M N S (by omega) hM

  refine xn_iconst (q := 1) 0 dX1_hinges_0 rfl (by decide) ?_
  refine x_istore_n (q := 2) (ls' := [(0, _), (1, _)]) [1, 0] dX1_hinges_1 rfl (by decide) rfl ?_
  refine xn_iconst (q := 3) 0 dX1_hinges_2 rfl (by decide) ?_
  refine x_istore_n (q := 4) (ls' := [(0, _), (1, _), (2, _)]) [1, 2, 0] dX1_hinges_3 rfl (by decide) rfl ?_
  exact loop (2 * c.m) 0 M N S (by omega) hM

set_option maxRecDepth 100000 in
set_option maxHeartbeats 4000000 in
theorem b_heldNodes (G : xG) (l : Launch) (ad : Nat → Nat) (F : xM) (R : Nat × Nat) (d : Nat) (σ : cZ) (c : mCf) (hc : Bm σ 1 c) : cC G l ad F R YX1_heldNodes d [.ref (ad 1)] σ (fun r σ' => r = some (.int (nI (hiN c (c.m + 1)))) ∧ σ' = σ) := by
  obtain ⟨h0, h1, h2, h3, h4, h5, h6, h7⟩ := hc
  refine cC.of (ls := [(0, .ref (ad 1))]) (by decide) (Nat.le_of_ble_eq_true rfl) rfl fun M N S hM => ?_
  have loop : ∀ (u i : Nat) (M : xM) (N S : Nat), i + u = c.m + 1 → cA G ad F R σ M N S → xX G l YX1_heldNodes d (cQ G ad F R (fun r σ' => r = some (.int (nI (hiN c (c.m + 1)))) ∧ σ' = σ)) 4 [(0, .ref (ad 1)), (1, .int (nI (hiN c i))), (2, .int (nI i))] [] M N S := by
    intro u
    induction u with
    | zero =>
      intro i M N S hi hM

      refine x_iload_n (q := 5) dX1_heldNodes_4 rfl rfl ?_
      refine x_aload_n (q := 6) dX1_heldNodes_5 rfl rfl ?_
      refine c_get (q := 9) (k := 1) (f := 6) hM rfl xclX1 fwX1_35 (by decide) dX1_heldNodes_6 rfl rfl ?_
      refine x_topi (y := nI c.m) (by exact h1) ?_
      refine xn_icmp_gt (q := 12) 35 dX1_heldNodes_9 (by decide) rfl (by omega) (by omega) (fun hc9 => ?_) (fun hc9 => absurd hc9 (by omega))
      refine x_iload_n (q := 36) dX1_heldNodes_35 rfl rfl ?_
      exact x_iret rfl dX1_heldNodes_36 (c_ret hM ⟨by rw [show i = c.m + 1 by omega], rfl⟩)

    | succ u ih =>
      intro i M N S hi hM

      refine x_iload_n (q := 5) dX1_heldNodes_4 rfl rfl ?_
      refine x_aload_n (q := 6) dX1_heldNodes_5 rfl rfl ?_
      refine c_get (q := 9) (k := 1) (f := 6) hM rfl xclX1 fwX1_35 (by decide) dX1_heldNodes_6 rfl rfl ?_
      refine x_topi (y := nI c.m) (by exact h1) ?_
      refine xn_icmp_gt (q := 12) 35 dX1_heldNodes_9 (by decide) rfl (by omega) (by omega) (fun hc9 => absurd hc9 (by omega)) (fun hc9 => ?_)
      refine x_iload_n (q := 13) dX1_heldNodes_12 rfl rfl ?_
      refine x_aload_n (q := 14) dX1_heldNodes_13 rfl rfl ?_
      refine c_get (q := 17) (k := 1) (f := 3) hM rfl xclX1 fwX1_20 (by decide) dX1_heldNodes_14 rfl rfl ?_
      refine x_iload_n (q := 18) dX1_heldNodes_17 rfl rfl ?_
      refine c_zald (q := 19) (k := 17) (n := 4) hM rfl (by decide) (by decide) dX1_heldNodes_18 rfl (by omega) ?_
      refine x_topi (y := bI (c.Hi i)) (by exact h5 i (by omega)) ?_
      refine x_if_eq (q := 22) 26 dX1_heldNodes_19 (by decide) rfl (fun hc19 => ?_) (fun hc19 => ?_)
      · refine xn_iconst (q := 27) 0 dX1_heldNodes_26 rfl (by decide) ?_
        refine xn_iadd (q := 28) dX1_heldNodes_27 rfl ?_
        refine x_istore_n (q := 29) (ls' := [(0, _), (1, _), (2, _)]) [1, 0, 2] dX1_heldNodes_28 rfl (by decide) rfl ?_
        refine xn_iinc (q := 32) (ls' := [(0, _), (1, _), (2, _)]) [1, 2, 0] 1 dX1_heldNodes_29 rfl rfl (by decide) (by decide) rfl ?_
        refine x_goto 4 dX1_heldNodes_32 (by decide) ?_
        have hb : hiN c (i + 1) = hiN c i + 0 := by show hiN c i + bN (c.Hi i) = _; rw [bI_eq.mp hc19]; rfl
        rw [← hb]
        exact ih (i + 1) M N S (by omega) hM
      · refine xn_iconst (q := 23) 1 dX1_heldNodes_22 rfl (by decide) ?_
        refine x_goto 27 dX1_heldNodes_23 (by decide) ?_
        refine xn_iadd (q := 28) dX1_heldNodes_27 rfl ?_
        refine x_istore_n (q := 29) (ls' := [(0, _), (1, _), (2, _)]) [1, 0, 2] dX1_heldNodes_28 rfl (by decide) rfl ?_
        refine xn_iinc (q := 32) (ls' := [(0, _), (1, _), (2, _)]) [1, 2, 0] 1 dX1_heldNodes_29 rfl rfl (by decide) (by decide) rfl ?_
        refine x_goto 4 dX1_heldNodes_32 (by decide) ?_
        have hb : hiN c (i + 1) = hiN c i + 1 := by show hiN c i + bN (c.Hi i) = _; rw [bI_ne.mp hc19]; rfl
        rw [← hb]
        exact ih (i + 1) M N S (by omega) hM

  refine xn_iconst (q := 1) 0 dX1_heldNodes_0 rfl (by decide) ?_
  refine x_istore_n (q := 2) (ls' := [(0, _), (1, _)]) [1, 0] dX1_heldNodes_1 rfl (by decide) rfl ?_
  refine xn_iconst (q := 3) 0 dX1_heldNodes_2 rfl (by decide) ?_
  refine x_istore_n (q := 4) (ls' := [(0, _), (1, _), (2, _)]) [1, 2, 0] dX1_heldNodes_3 rfl (by decide) rfl ?_
  exact loop (c.m + 1) 0 M N S (by omega) hM

set_option maxRecDepth 100000 in
set_option maxHeartbeats 4000000 in
theorem b_wholeLength (G : xG) (l : Launch) (ad : Nat → Nat) (F : xM) (R : Nat × Nat) (d : Nat) (σ : cZ) (c : mCf) (hc : Bm σ 1 c) : cC G l ad F R YX1_wholeLength d [.ref (ad 1)] σ (fun r σ' => r = some (.long (lN (leN c c.m))) ∧ σ' = σ) := by
  obtain ⟨h0, h1, h2, h3, h4, h5, h6, h7⟩ := hc
  refine cC.of (ls := [(0, .ref (ad 1))]) (by decide) (Nat.le_of_ble_eq_true rfl) rfl fun M N S hM => ?_
  have loop : ∀ (u i : Nat) (M : xM) (N S : Nat), i + u = c.m → cA G ad F R σ M N S → xX G l YX1_wholeLength d (cQ G ad F R (fun r σ' => r = some (.long (lN (leN c c.m))) ∧ σ' = σ)) 4 [(0, .ref (ad 1)), (1, .long (lN (leN c i))), (3, .int (nI i))] [] M N S := by
    intro u
    induction u with
    | zero =>
      intro i M N S hi hM

      refine x_iload_n (q := 5) dX1_wholeLength_4 rfl rfl ?_
      refine x_aload_n (q := 6) dX1_wholeLength_5 rfl rfl ?_
      refine c_get (q := 9) (k := 1) (f := 6) hM rfl xclX1 fwX1_35 (by decide) dX1_wholeLength_6 rfl rfl ?_
      refine x_topi (y := nI c.m) (by exact h1) ?_
      refine xn_icmp_ge (q := 12) 27 dX1_wholeLength_9 (by decide) rfl (by omega) (by omega) (fun hc9 => ?_) (fun hc9 => absurd hc9 (by omega))
      refine x_lload_n (q := 28) dX1_wholeLength_27 rfl rfl ?_
      exact x_lret rfl dX1_wholeLength_28 (c_ret hM ⟨by rw [show i = c.m by omega], rfl⟩)

    | succ u ih =>
      intro i M N S hi hM

      refine x_iload_n (q := 5) dX1_wholeLength_4 rfl rfl ?_
      refine x_aload_n (q := 6) dX1_wholeLength_5 rfl rfl ?_
      refine c_get (q := 9) (k := 1) (f := 6) hM rfl xclX1 fwX1_35 (by decide) dX1_wholeLength_6 rfl rfl ?_
      refine x_topi (y := nI c.m) (by exact h1) ?_
      refine xn_icmp_ge (q := 12) 27 dX1_wholeLength_9 (by decide) rfl (by omega) (by omega) (fun hc9 => absurd hc9 (by omega)) (fun hc9 => ?_)
      refine x_lload_n (q := 13) dX1_wholeLength_12 rfl rfl ?_
      refine x_aload_n (q := 14) dX1_wholeLength_13 rfl rfl ?_
      refine c_get (q := 17) (k := 1) (f := 0) hM rfl xclX1 fwX1_9 (by decide) dX1_wholeLength_14 rfl rfl ?_
      refine x_iload_n (q := 18) dX1_wholeLength_17 rfl rfl ?_
      refine c_lald (q := 19) (k := 14) (n := 3) hM rfl (by decide) (by decide) dX1_wholeLength_18 rfl (by omega) ?_
      refine x_topl (y := lN (c.L i)) (by exact h2 i (by omega)) ?_
      refine xn_ladd (q := 20) dX1_wholeLength_19 rfl ?_
      refine x_lstore_n (q := 21) (ls' := [(0, _), (1, _), (3, _)]) [1, 0, 2] dX1_wholeLength_20 rfl (by decide) rfl ?_
      refine xn_iinc (q := 24) (ls' := [(0, _), (1, _), (3, _)]) [1, 2, 0] 1 dX1_wholeLength_21 rfl rfl (by decide) (by decide) rfl ?_
      refine x_goto 4 dX1_wholeLength_24 (by decide) ?_
      exact ih (i + 1) M N S (by omega) hM

  refine xn_lconst (q := 1) 0 dX1_wholeLength_0 rfl (by decide) ?_
  refine x_lstore_n (q := 2) (ls' := [(0, _), (1, _)]) [1, 0] dX1_wholeLength_1 rfl (by decide) rfl ?_
  refine xn_iconst (q := 3) 0 dX1_wholeLength_2 rfl (by decide) ?_
  refine x_istore_n (q := 4) (ls' := [(0, _), (1, _), (3, _)]) [1, 2, 0] dX1_wholeLength_3 rfl (by decide) rfl ?_
  exact loop c.m 0 M N S (by omega) hM

end XB3
