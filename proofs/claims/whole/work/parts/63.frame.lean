section XB7
theorem iI_z0 {z : Int} (h1 : -4294967296 < z) (h2 : z < 4294967296) : iI z = 0 ↔ z = 0 := by
  constructor
  · intro h
    have h3 : (iI z).toInt = 0 := by rw [h]; rfl
    rw [Int32.toInt_ofInt] at h3
    have := Int.emod_emod_of_dvd z (show (1 : Int) ∣ 4294967296 by exact ⟨_, (Int.one_mul _).symm⟩)
    unfold Int.bmod at h3
    simp at h3
    split at h3 <;> omega
  · intro h; rw [h]; rfl
def slN (sl : Nat → Bool) : Nat → Nat
  | 0 => 0
  | k + 1 => slN sl k + bN (sl k)
theorem slN_le (sl : Nat → Bool) : ∀ k, slN sl k ≤ k
  | 0 => Nat.le_refl _
  | k + 1 => by
    have h1 := slN_le sl k
    have h2 := bN_le (sl k)
    show slN sl k + bN (sl k) ≤ k + 1
    omega
def lnP (sl : Nat → Bool) : Nat → Nat → Int → Int
  | 0, _, _ => -1
  | u + 1, k, left => if sl k = true then (if left = 0 then (k : Int) else lnP sl u (k + 1) (left - 1)) else lnP sl u (k + 1) left
def Slk (σ : cZ) (sl : Nat → Bool) : Prop := ∀ k, k < 4 → (σ 31).1 k = bI (sl k)
def tri (i j : Nat) : Nat := i * (i + 1) / 2 + j
theorem tri_lt {i j : Nat} (hi : i < 10) (hj : j ≤ i) : tri i j < 55 := by
  have h : ∀ i, i < 10 → i * (i + 1) / 2 + i < 55 := by decide
  have := h i hi
  unfold tri
  omega

set_option maxRecDepth 100000 in
set_option maxHeartbeats 4000000 in
theorem b_forget (G : xG) (l : Launch) (ad : Nat → Nat) (F : xM) (R : Nat × Nat) (d : Nat) (σ : cZ)  : cC G l ad F R YX4_forget d [.ref (ad 4)] σ (fun r σ' => r = none ∧ kp [4] σ σ' ∧ (σ' 4).1 13 = nI 0 ∧ (σ' 4).2 = (σ 4).2) := by
  refine cC.of (ls := [(0, .ref (ad 4))]) (by decide) (Nat.le_of_ble_eq_true rfl) rfl fun M N S hM => ?_

  refine x_aload_n (q := 1) dX4_forget_0 rfl rfl ?_
  refine xn_iconst (q := 2) 0 dX4_forget_1 rfl (by decide) ?_
  refine c_puti (q := 5) (k := 4) (f := 13) hM rfl rfl xclX4 fwX4_58 (by decide) rfl rfl (Nat.le_of_ble_eq_true rfl) dX4_forget_2 rfl rfl rfl (fun M σ2 a2 e2 b2 hM => ?_)
  exact x_vret rfl dX4_forget_5 (c_ret hM ⟨rfl, a2, by rw [e2, mu_s], b2⟩)

set_option maxRecDepth 100000 in
set_option maxHeartbeats 4000000 in
theorem b_scale (G : xG) (l : Launch) (ad : Nat → Nat) (F : xM) (R : Nat × Nat) (d : Nat) (σ : cZ)  : cC G l ad F R YX4_scale d [.ref (ad 4)] σ (fun r σ' => r = some (.long ((σ 4).2.1 12)) ∧ σ' = σ) := by
  refine cC.of (ls := [(0, .ref (ad 4))]) (by decide) (Nat.le_of_ble_eq_true rfl) rfl fun M N S hM => ?_

  refine x_aload_n (q := 1) dX4_scale_0 rfl rfl ?_
  refine c_get (q := 4) (k := 4) (f := 12) hM rfl xclX4 fwX4_81 (by decide) dX4_scale_1 rfl rfl ?_
  exact x_lret rfl dX4_scale_4 (c_ret hM ⟨rfl, rfl⟩)

set_option maxRecDepth 100000 in
set_option maxHeartbeats 4000000 in
theorem b_divisor (G : xG) (l : Launch) (ad : Nat → Nat) (F : xM) (R : Nat × Nat) (d : Nat) (σ : cZ)  : cC G l ad F R YX4_divisor d [.ref (ad 4)] σ (fun r σ' => r = some (.ref (ad 155)) ∧ σ' = σ) := by
  refine cC.of (ls := [(0, .ref (ad 4))]) (by decide) (Nat.le_of_ble_eq_true rfl) rfl fun M N S hM => ?_

  refine x_aload_n (q := 1) dX4_divisor_0 rfl rfl ?_
  refine c_get (q := 4) (k := 4) (f := 8) hM rfl xclX4 fwX4_41 (by decide) dX4_divisor_1 rfl rfl ?_
  exact x_aret rfl (.inl ⟨_, rfl⟩) dX4_divisor_4 (c_ret hM ⟨rfl, rfl⟩)

set_option maxRecDepth 100000 in
set_option maxHeartbeats 4000000 in
theorem b_pullOf (G : xG) (l : Launch) (ad : Nat → Nat) (F : xM) (R : Nat × Nat) (d : Nat) (σ : cZ) (i j : Nat) (hi : i < 10) (hj : j < 10) : cC G l ad F R YX4_pullOf d [.ref (ad 4), .int (nI i), .int (nI j)] σ (fun r σ' => r = some (.long ((σ 32).2.1 (i * 10 + j))) ∧ σ' = σ) := by
  refine cC.of (ls := [(0, .ref (ad 4)), (1, .int (nI i)), (2, .int (nI j))]) (by decide) (Nat.le_of_ble_eq_true rfl) rfl fun M N S hM => ?_

  refine x_aload_n (q := 1) dX4_pullOf_0 rfl rfl ?_
  refine c_get (q := 4) (k := 4) (f := 6) hM rfl xclX4 fwX4_30 (by decide) dX4_pullOf_1 rfl rfl ?_
  refine x_iload_n (q := 5) dX4_pullOf_4 rfl rfl ?_
  refine xn_bipush (q := 7) 10 dX4_pullOf_5 rfl (by decide) ?_
  refine xn_imul (q := 8) dX4_pullOf_7 rfl ?_
  refine x_iload_n (q := 9) dX4_pullOf_8 rfl rfl ?_
  refine xn_iadd (q := 10) dX4_pullOf_9 rfl ?_
  refine c_lald (q := 11) (k := 32) (n := 100) hM rfl (by decide) (by decide) dX4_pullOf_10 rfl (by omega) ?_
  exact x_lret rfl dX4_pullOf_11 (c_ret hM ⟨rfl, rfl⟩)

set_option maxRecDepth 100000 in
set_option maxHeartbeats 4000000 in
theorem b_slotOfEnd (G : xG) (l : Launch) (ad : Nat → Nat) (F : xM) (R : Nat × Nat) (d : Nat) (σ : cZ) (e : Nat) (he : e < 6) : cC G l ad F R YX4_slotOfEnd d [.ref (ad 4), .int (nI e)] σ (fun r σ' => r = some (.int ((σ 28).1 e)) ∧ σ' = σ) := by
  refine cC.of (ls := [(0, .ref (ad 4)), (1, .int (nI e))]) (by decide) (Nat.le_of_ble_eq_true rfl) rfl fun M N S hM => ?_

  refine x_aload_n (q := 1) dX4_slotOfEnd_0 rfl rfl ?_
  refine c_get (q := 4) (k := 4) (f := 2) hM rfl xclX4 fwX4_17 (by decide) dX4_slotOfEnd_1 rfl rfl ?_
  refine x_iload_n (q := 5) dX4_slotOfEnd_4 rfl rfl ?_
  refine c_iald (q := 6) (k := 28) (n := 6) hM rfl (by decide) (by decide) dX4_slotOfEnd_5 rfl (by omega) ?_
  exact x_iret rfl dX4_slotOfEnd_6 (c_ret hM ⟨rfl, rfl⟩)

set_option maxRecDepth 100000 in
set_option maxHeartbeats 4000000 in
theorem b_cellOf (G : xG) (l : Launch) (ad : Nat → Nat) (F : xM) (R : Nat × Nat) (d : Nat) (σ : cZ) (i j : Nat) (hi : i < 10) (hj : j < 10) : cC G l ad F R YX4_cellOf d [.ref (ad 4), .int (nI i), .int (nI j)] σ (fun r σ' => r = some (.ref (ad (100 + tri (max i j) (min i j)))) ∧ σ' = σ) := by
  have h1 := @tri_lt (max i j) (min i j) (by omega) (by omega)
  have hm1 : i * (i + 1) ≤ 9 * 10 := Nat.mul_le_mul (by omega) (by omega)
  have hm2 : j * (j + 1) ≤ 9 * 10 := Nat.mul_le_mul (by omega) (by omega)
  unfold tri at *
  refine cC.of (ls := [(0, .ref (ad 4)), (1, .int (nI i)), (2, .int (nI j))]) (by decide) (Nat.le_of_ble_eq_true rfl) rfl fun M N S hM => ?_

  refine x_iload_n (q := 1) dX4_cellOf_0 rfl rfl ?_
  refine x_iload_n (q := 2) dX4_cellOf_1 rfl rfl ?_
  refine xn_icmp_lt (q := 5) 22 dX4_cellOf_2 (by decide) rfl (by omega) (by omega) (fun hc2 => ?_) (fun hc2 => ?_)
  · refine x_aload_n (q := 23) dX4_cellOf_22 rfl rfl ?_
    refine c_get (q := 26) (k := 4) (f := 7) hM rfl xclX4 fwX4_36 (by decide) dX4_cellOf_23 rfl rfl ?_
    refine x_iload_n (q := 27) dX4_cellOf_26 rfl rfl ?_
    refine x_iload_n (q := 28) dX4_cellOf_27 rfl rfl ?_
    refine xn_iconst (q := 29) 1 dX4_cellOf_28 rfl (by decide) ?_
    refine xn_iadd (q := 30) dX4_cellOf_29 rfl ?_
    refine xn_imul (q := 31) dX4_cellOf_30 rfl ?_
    refine xn_iconst (q := 32) 2 dX4_cellOf_31 rfl (by decide) ?_
    refine xn_idiv (q := 33) dX4_cellOf_32 rfl (by omega) (by decide) (by decide) ?_
    refine x_iload_n (q := 34) dX4_cellOf_33 rfl rfl ?_
    refine xn_iadd (q := 35) dX4_cellOf_34 rfl ?_
    refine c_aald (q := 36) hM dX4_cellOf_35 rfl (by rw [show max i j = j by omega, show min i j = i by omega] at h1; exact h1) ?_
    exact x_aret rfl (.inl ⟨_, rfl⟩) dX4_cellOf_36 (c_ret hM ⟨by rw [show max i j = j by omega, show min i j = i by omega], rfl⟩)
  · refine x_aload_n (q := 6) dX4_cellOf_5 rfl rfl ?_
    refine c_get (q := 9) (k := 4) (f := 7) hM rfl xclX4 fwX4_36 (by decide) dX4_cellOf_6 rfl rfl ?_
    refine x_iload_n (q := 10) dX4_cellOf_9 rfl rfl ?_
    refine x_iload_n (q := 11) dX4_cellOf_10 rfl rfl ?_
    refine xn_iconst (q := 12) 1 dX4_cellOf_11 rfl (by decide) ?_
    refine xn_iadd (q := 13) dX4_cellOf_12 rfl ?_
    refine xn_imul (q := 14) dX4_cellOf_13 rfl ?_
    refine xn_iconst (q := 15) 2 dX4_cellOf_14 rfl (by decide) ?_
    refine xn_idiv (q := 16) dX4_cellOf_15 rfl (by omega) (by decide) (by decide) ?_
    refine x_iload_n (q := 17) dX4_cellOf_16 rfl rfl ?_
    refine xn_iadd (q := 18) dX4_cellOf_17 rfl ?_
    refine c_aald (q := 19) hM dX4_cellOf_18 rfl (by rw [show max i j = i by omega, show min i j = j by omega] at h1; exact h1) ?_
    refine x_goto 36 dX4_cellOf_19 (by decide) ?_
    exact x_aret rfl (.inl ⟨_, rfl⟩) dX4_cellOf_36 (c_ret hM ⟨by rw [show max i j = i by omega, show min i j = j by omega], rfl⟩)

set_option maxRecDepth 100000 in
set_option maxHeartbeats 4000000 in
theorem b_looseNodes (G : xG) (l : Launch) (ad : Nat → Nat) (F : xM) (R : Nat × Nat) (d : Nat) (σ : cZ) (sl : Nat → Bool) (hs : Slk σ sl) : cC G l ad F R YX4_looseNodes d [.ref (ad 4)] σ (fun r σ' => r = some (.int (nI (slN sl 4))) ∧ σ' = σ) := by
  refine cC.of (ls := [(0, .ref (ad 4))]) (by decide) (Nat.le_of_ble_eq_true rfl) rfl fun M N S hM => ?_
  have loop : ∀ (u i : Nat) (M : xM) (N S : Nat), i + u = 4 → cA G ad F R σ M N S → xX G l YX4_looseNodes d (cQ G ad F R (fun r σ' => r = some (.int (nI (slN sl 4))) ∧ σ' = σ)) 4 [(0, .ref (ad 4)), (1, .int (nI (slN sl i))), (2, .int (nI i))] [] M N S := by
    intro u
    induction u with
    | zero =>
      intro i M N S hi hM

      refine x_iload_n (q := 5) dX4_looseNodes_4 rfl rfl ?_
      refine xn_iconst (q := 6) 4 dX4_looseNodes_5 rfl (by decide) ?_
      refine xn_icmp_ge (q := 9) 32 dX4_looseNodes_6 (by decide) rfl (by omega) (by omega) (fun hc6 => ?_) (fun hc6 => absurd hc6 (by omega))
      refine x_iload_n (q := 33) dX4_looseNodes_32 rfl rfl ?_
      exact x_iret rfl dX4_looseNodes_33 (c_ret hM ⟨by rw [show i = 4 by omega], rfl⟩)

    | succ u ih =>
      intro i M N S hi hM

      refine x_iload_n (q := 5) dX4_looseNodes_4 rfl rfl ?_
      refine xn_iconst (q := 6) 4 dX4_looseNodes_5 rfl (by decide) ?_
      refine xn_icmp_ge (q := 9) 32 dX4_looseNodes_6 (by decide) rfl (by omega) (by omega) (fun hc6 => absurd hc6 (by omega)) (fun hc6 => ?_)
      refine x_iload_n (q := 10) dX4_looseNodes_9 rfl rfl ?_
      refine x_aload_n (q := 11) dX4_looseNodes_10 rfl rfl ?_
      refine c_get (q := 14) (k := 4) (f := 5) hM rfl xclX4 fwX4_27 (by decide) dX4_looseNodes_11 rfl rfl ?_
      refine x_iload_n (q := 15) dX4_looseNodes_14 rfl rfl ?_
      refine c_zald (q := 16) (k := 31) (n := 4) hM rfl (by decide) (by decide) dX4_looseNodes_15 rfl (by omega) ?_
      refine x_topi (y := bI (sl i)) (by exact hs i (by omega)) ?_
      refine x_if_eq (q := 19) 23 dX4_looseNodes_16 (by decide) rfl (fun hc16 => ?_) (fun hc16 => ?_)
      · refine xn_iconst (q := 24) 0 dX4_looseNodes_23 rfl (by decide) ?_
        refine xn_iadd (q := 25) dX4_looseNodes_24 rfl ?_
        refine x_istore_n (q := 26) (ls' := [(0, _), (1, _), (2, _)]) [1, 0, 2] dX4_looseNodes_25 rfl (by decide) rfl ?_
        refine xn_iinc (q := 29) (ls' := [(0, _), (1, _), (2, _)]) [1, 2, 0] 1 dX4_looseNodes_26 rfl rfl (by decide) (by decide) rfl ?_
        refine x_goto 4 dX4_looseNodes_29 (by decide) ?_
        have hb : slN sl (i + 1) = slN sl i + 0 := by show slN sl i + bN (sl i) = _; rw [bI_eq.mp hc16]; rfl
        rw [← hb]
        exact ih (i + 1) M N S (by omega) hM
      · refine xn_iconst (q := 20) 1 dX4_looseNodes_19 rfl (by decide) ?_
        refine x_goto 24 dX4_looseNodes_20 (by decide) ?_
        refine xn_iadd (q := 25) dX4_looseNodes_24 rfl ?_
        refine x_istore_n (q := 26) (ls' := [(0, _), (1, _), (2, _)]) [1, 0, 2] dX4_looseNodes_25 rfl (by decide) rfl ?_
        refine xn_iinc (q := 29) (ls' := [(0, _), (1, _), (2, _)]) [1, 2, 0] 1 dX4_looseNodes_26 rfl rfl (by decide) (by decide) rfl ?_
        refine x_goto 4 dX4_looseNodes_29 (by decide) ?_
        have hb : slN sl (i + 1) = slN sl i + 1 := by show slN sl i + bN (sl i) = _; rw [bI_ne.mp hc16]; rfl
        rw [← hb]
        exact ih (i + 1) M N S (by omega) hM

  refine xn_iconst (q := 1) 0 dX4_looseNodes_0 rfl (by decide) ?_
  refine x_istore_n (q := 2) (ls' := [(0, _), (1, _)]) [1, 0] dX4_looseNodes_1 rfl (by decide) rfl ?_
  refine xn_iconst (q := 3) 0 dX4_looseNodes_2 rfl (by decide) ?_
  refine x_istore_n (q := 4) (ls' := [(0, _), (1, _), (2, _)]) [1, 2, 0] dX4_looseNodes_3 rfl (by decide) rfl ?_
  exact loop 4 0 M N S (by decide) hM

set_option maxRecDepth 100000 in
set_option maxHeartbeats 4000000 in
theorem b_looseNode (G : xG) (l : Launch) (ad : Nat → Nat) (F : xM) (R : Nat × Nat) (d : Nat) (σ : cZ) (sl : Nat → Bool) (hs : Slk σ sl) (k : Int) (hk1 : -2147483648 ≤ k) (hk2 : k < 2147483648) : cC G l ad F R YX4_looseNode d [.ref (ad 4), .int (iI k)] σ (fun r σ' => r = some (.int (iI (lnP sl 4 0 k))) ∧ σ' = σ) := by
  refine cC.of (ls := [(0, .ref (ad 4)), (1, .int (iI k))]) (by decide) (Nat.le_of_ble_eq_true rfl) rfl fun M N S hM => ?_
  have loop : ∀ (u i : Nat) (z : Int) (M : xM) (N S : Nat), i + u = 4 → -2147483648 - (i : Int) ≤ z → z < 2147483648 → lnP sl u i z = lnP sl 4 0 k → cA G ad F R σ M N S → xX G l YX4_looseNode d (cQ G ad F R (fun r σ' => r = some (.int (iI (lnP sl 4 0 k))) ∧ σ' = σ)) 4 [(0, .ref (ad 4)), (1, .int (iI k)), (2, .int (iI z)), (3, .int (nI i))] [] M N S := by
    intro u
    induction u with
    | zero =>
      intro i z M N S hi h1 h2 he hM

      refine x_iload_n (q := 5) dX4_looseNode_4 rfl rfl ?_
      refine xn_iconst (q := 6) 4 dX4_looseNode_5 rfl (by decide) ?_
      refine xn_icmp_ge (q := 9) 33 dX4_looseNode_6 (by decide) rfl (by omega) (by omega) (fun hc6 => ?_) (fun hc6 => absurd hc6 (by omega))
      refine x_iconst (q := 34) (-1) dX4_looseNode_33 rfl (by decide) ?_
      exact x_iret rfl dX4_looseNode_34 (c_ret hM ⟨by rw [← he]; rfl, rfl⟩)

    | succ u ih =>
      intro i z M N S hi h1 h2 he hM
      have hu : lnP sl (u + 1) i z = if sl i = true then (if z = 0 then (i : Int) else lnP sl u (i + 1) (z - 1)) else lnP sl u (i + 1) z := rfl
      have hz0 := iI_z0 (z := z) (by omega) (by omega)
      have e9 : iI z + -1 = iI (z - 1) := by rw [show iI z + -1 = iI z + iI (-1) from rfl, ← Int32.ofInt_add]; congr 1

      refine x_iload_n (q := 5) dX4_looseNode_4 rfl rfl ?_
      refine xn_iconst (q := 6) 4 dX4_looseNode_5 rfl (by decide) ?_
      refine xn_icmp_ge (q := 9) 33 dX4_looseNode_6 (by decide) rfl (by omega) (by omega) (fun hc6 => absurd hc6 (by omega)) (fun hc6 => ?_)
      refine x_aload_n (q := 10) dX4_looseNode_9 rfl rfl ?_
      refine c_get (q := 13) (k := 4) (f := 5) hM rfl xclX4 fwX4_27 (by decide) dX4_looseNode_10 rfl rfl ?_
      refine x_iload_n (q := 14) dX4_looseNode_13 rfl rfl ?_
      refine c_zald (q := 15) (k := 31) (n := 4) hM rfl (by decide) (by decide) dX4_looseNode_14 rfl (by omega) ?_
      refine x_topi (y := bI (sl i)) (by exact hs i (by omega)) ?_
      refine x_if_eq (q := 18) 27 dX4_looseNode_15 (by decide) rfl (fun hc15 => ?_) (fun hc15 => ?_)
      · refine xn_iinc (q := 30) (ls' := [(0, _), (1, _), (2, _), (3, _)]) [1, 2, 3, 0] 1 dX4_looseNode_27 rfl rfl (by decide) (by decide) rfl ?_
        refine x_goto 4 dX4_looseNode_30 (by decide) ?_
        exact ih (i + 1) z M N S (by omega) (by omega) h2 (by rw [← he, hu, if_neg (by rw [bI_eq.mp hc15]; decide)]) hM
      · refine x_iload_n (q := 19) dX4_looseNode_18 rfl rfl ?_
        refine x_if_ne (q := 22) 24 dX4_looseNode_19 (by decide) rfl (fun hc19 => ?_) (fun hc19 => ?_)
        · refine x_iinc (q := 27) (ls' := [(0, _), (1, _), (2, _), (3, _)]) [1, 2, 0, 3] (-1) dX4_looseNode_24 rfl rfl (by decide) (by decide) rfl ?_
          refine xn_iinc (q := 30) (ls' := [(0, _), (1, _), (2, _), (3, _)]) [1, 2, 3, 0] 1 dX4_looseNode_27 rfl rfl (by decide) (by decide) rfl ?_
          refine x_goto 4 dX4_looseNode_30 (by decide) ?_
          rw [e9]
          exact ih (i + 1) (z - 1) M N S (by omega) (by omega) (by omega) (by rw [← he, hu, if_pos (bI_ne.mp hc15), if_neg (fun h => hc19 (hz0.mpr h))]) hM
        · refine x_iload_n (q := 23) dX4_looseNode_22 rfl rfl ?_
          exact x_iret rfl dX4_looseNode_23 (c_ret hM ⟨by rw [← he, hu, if_pos (bI_ne.mp hc15), if_pos (hz0.mp hc19), nI_i], rfl⟩)

  refine x_iload_n (q := 1) dX4_looseNode_0 rfl rfl ?_
  refine x_istore_n (q := 2) (ls' := [(0, _), (1, _), (2, _)]) [1, 2, 0] dX4_looseNode_1 rfl (by decide) rfl ?_
  refine xn_iconst (q := 3) 0 dX4_looseNode_2 rfl (by decide) ?_
  refine x_istore_n (q := 4) (ls' := [(0, _), (1, _), (2, _), (3, _)]) [1, 2, 3, 0] dX4_looseNode_3 rfl (by decide) rfl ?_
  exact loop 4 0 k M N S (by decide) (by omega) hk2 rfl hM

end XB7
