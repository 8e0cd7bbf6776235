section XC5
def prJ (fr : Nat → Bool) (A : Nat → Nat → Int) (rg : Nat → Int) (i : Nat) : Nat → Int
  | 0 => 0
  | j + 1 => prJ fr A rg i j + (if fr j = true then clP A i j * -rg j else 0)
def prI (fr : Nat → Bool) (A : Nat → Nat → Int) (lf rg : Nat → Int) : Nat → Int
  | 0 => 0
  | i + 1 => prI fr A lf rg i + (if fr i = true then prJ fr A rg i 10 * lf i else 0)
def sm3 (f : Nat → Int) : Prop := ∀ i, i < 10 → (f i).natAbs ≤ 3000000000
theorem B9_2 {k : Int} (h : k.natAbs ≤ 3000000000) : k.natAbs < B9 ^ 2 := Nat.lt_of_le_of_lt h (by decide)
theorem prJ_lt {fr : Nat → Bool} {A : Nat → Nat → Int} {rg : Nat → Int} {i : Nat} (hi : i < 10) (hA : ∀ i j, i < 10 → j ≤ i → (A i j).natAbs < B9 ^ 12) (hr : sm3 rg) : ∀ j, j ≤ 10 → (prJ fr A rg i j).natAbs < B9 ^ (14 + j)
  | 0, _ => by show (0 : Int).natAbs < _; rw [Int.natAbs_zero]; exact B9_pos _
  | j + 1, hj => by
    have h1 := prJ_lt (fr := fr) hi hA hr j (by omega)
    have h2 : (if fr j = true then clP A i j * -rg j else 0 : Int).natAbs < B9 ^ (14 + j) := by
      split
      · have h3 := B9m (hA (max i j) (min i j) (by omega) (by omega)) (u := A (max i j) (min i j)) (v := -rg j) (b := 2) (by rw [Int.natAbs_neg]; exact B9_2 (hr j (by omega)))
        exact B9up h3 (by omega)
      · rw [Int.natAbs_zero]; exact B9_pos _
    exact B9a h1 h2
theorem prI_lt {fr : Nat → Bool} {A : Nat → Nat → Int} {lf rg : Nat → Int} (hA : ∀ i j, i < 10 → j ≤ i → (A i j).natAbs < B9 ^ 12) (hl : sm3 lf) (hr : sm3 rg) : ∀ i, i ≤ 10 → (prI fr A lf rg i).natAbs < B9 ^ (26 + i)
  | 0, _ => by show (0 : Int).natAbs < _; rw [Int.natAbs_zero]; exact B9_pos _
  | i + 1, hi => by
    have h1 := prI_lt (fr := fr) hA hl hr i (by omega)
    have h2 : (if fr i = true then prJ fr A rg i 10 * lf i else 0 : Int).natAbs < B9 ^ (26 + i) := by
      split
      · exact B9up (B9m (prJ_lt (by omega) hA hr 10 (Nat.le_refl _)) (B9_2 (hl i (by omega)))) (by omega)
      · rw [Int.natAbs_zero]; exact B9_pos _
    exact B9a h1 h2
theorem pa_ne {an : Nat} (h : 159 ≤ an ∧ an < 180) : isBg an ∧ (an ∉ [157, 157 + 100] ∧ an + 100 ∉ [157, 157 + 100]) ∧ (157 ∉ [an, an + 100] ∧ 157 + 100 ∉ [an, an + 100]) ∧ an ≠ 157 ∧ (∀ j, j ∈ [an, an + 100] → ¬ (100 ≤ j ∧ j < 155) ∧ ¬ (200 ≤ j ∧ j < 255)) ∧ 29 ∉ [an, an + 100] := by
  unfold isBg
  simp
  omega
theorem pa_ck {i j : Nat} (hi : i < 10) (hj : j < 10) : isBg (100 + tri (max i j) (min i j)) ∧ 157 ≠ 100 + tri (max i j) (min i j) := by
  have := tri_lt (i := max i j) (j := min i j) (by omega) (by omega)
  unfold isBg
  omega

set_option maxRecDepth 100000 in
set_option maxHeartbeats 4000000 in
theorem b_pair (G : xG) (l : Launch) (ad : Nat → Nat) (F : xM) (R : Nat × Nat) (d : Nat) (σ : cZ) (fr : Nat → Bool) (A : Nat → Nat → Int) (lf rg : Nat → Int) (hC : Cll σ A) (hfr : ∀ s, s < 10 → (σ 29).1 s = bI (fr s)) (hbA : ∀ i j, i < 10 → j ≤ i → (A i j).natAbs < B9 ^ 12) (la ra an : Nat) (hla : la < 40) (hra : ra < 40) (han : 159 ≤ an ∧ an < 180) (ela : ∀ τ, cE ad τ la = some (laE 10 (τ la))) (era : ∀ τ, cE ad τ ra = some (laE 10 (τ ra))) (hlf : ∀ i, i < 10 → (σ la).2.1 i = iL (lf i)) (hrg : ∀ i, i < 10 → (σ ra).2.1 i = iL (rg i)) (sl : sm3 lf) (sr : sm3 rg) : cC G l ad F R YX4_pair (d + 4) [.ref (ad 4), .ref (ad la), .ref (ad ra), .ref (ad an)] σ (fun r σ' => r = none ∧ kp [157, 257, an, an + 100] σ σ' ∧ Bg σ' an (prI fr A lf rg 10)) := by
  obtain ⟨anb, n1, n2, n3, n4, n5⟩ := pa_ne han
  have hla2 : la ∉ [157, 257, an, an + 100] ∧ ra ∉ [157, 257, an, an + 100] ∧ 29 ∉ [157, 257, an, an + 100] ∧ la < 200 ∧ ra < 200 := by simp; omega
  have kpC : ∀ (τ : cZ), kp [157, 257, an, an + 100] σ τ → Cll τ A := fun τ h => hC.keep h (fun j hj => by simp at hj; omega)
  have ka : ∀ (τ τ' : cZ), kp [an, an + 100] τ τ' → kp [157, 257, an, an + 100] τ τ' := fun τ τ' h => h.mono (fun j hj => by simp at hj ⊢; omega)
  have kb : ∀ (τ τ' : cZ), kp [157, 157 + 100] τ τ' → kp [157, 257, an, an + 100] τ τ' := fun τ τ' h => h.mono (fun j hj => by simp at hj ⊢; omega)
  have bJ := fun i (hi : i < 10) j (hj : j ≤ 10) => B9up (prJ_lt (fr := fr) hi hbA sr j hj) (show 14 + j ≤ 1000 by omega)
  have bI' := fun i (hi : i ≤ 10) => B9up (prI_lt (fr := fr) hbA sl sr i hi) (show 26 + i ≤ 1000 by omega)
  have bC := fun i j (hi : i < 10) (hj : j < 10) => B9up (hbA (max i j) (min i j) (by omega) (by omega)) (show 12 ≤ 1000 by decide)
  clear hbA
  have outer : ∀ (u i : Nat) (σ1 : cZ) (M : xM) (N S : Nat), i + u = 10 → kp [157, 257, an, an + 100] σ σ1 → Bg σ1 an (prI fr A lf rg i) → cA G ad F R σ1 M N S → xX G l YX4_pair (d + 4) (cQ G ad F R (fun r σ' => r = none ∧ kp [157, 257, an, an + 100] σ σ' ∧ Bg σ' an (prI fr A lf rg 10))) 8 [(0, .ref (ad 4)), (1, .ref (ad la)), (2, .ref (ad ra)), (3, .ref (ad an)), (4, .int (nI i))] [] M N S := by
    intro u
    induction u with
    | zero =>
      intro i σ1 M N S hi k1 k2 hM

      refine x_iload (q := 10) dX4_pair_8 rfl rfl ?_
      refine xn_bipush (q := 12) 10 dX4_pair_10 rfl (by decide) ?_
      refine xn_icmp_ge (q := 15) 106 dX4_pair_12 (by decide) rfl (by omega) (by omega) (fun hc12 => ?_) (fun hc12 => absurd hc12 (by omega))
      exact x_vret rfl dX4_pair_106 (c_ret hM ⟨rfl, k1, by rw [show i = 10 by omega] at k2; exact k2⟩)

    | succ u ih =>
      intro i σ0 M N S hi k1' k2' hM
      have hi10 : i < 10 := by omega
      have hst : prI fr A lf rg (i + 1) = prI fr A lf rg i + (if fr i = true then prJ fr A rg i 10 * lf i else 0) := rfl
      have hlb : (lf i).natAbs ≤ 3000000000 := sl i hi10
      have inner : fr i = true → ∀ (v j : Nat) (σ1 : cZ) (M : xM) (N S : Nat), j + v = 10 → kp [157, 257, an, an + 100] σ σ1 → Bg σ1 an (prI fr A lf rg i) → Bg σ1 157 (prJ fr A rg i j) → cA G ad F R σ1 M N S → xX G l YX4_pair (d + 4) (cQ G ad F R (fun r σ' => r = none ∧ kp [157, 257, an, an + 100] σ σ' ∧ Bg σ' an (prI fr A lf rg 10))) 45 [(0, .ref (ad 4)), (1, .ref (ad la)), (2, .ref (ad ra)), (3, .ref (ad an)), (4, .int (nI i)), (5, .int (nI j))] [] M N S := by
        intro hf v
        induction v with
        | zero =>
          intro j σ1 M N S hj k1 k2 k3 hM
          obtain rfl : j = 10 := by omega
          have bb1 := bI' i (by omega)
          have bb2 := bJ i hi10 10 (Nat.le_refl _)

          refine x_iload (q := 47) dX4_pair_45 rfl rfl ?_
          refine xn_bipush (q := 49) 10 dX4_pair_47 rfl (by decide) ?_
          refine xn_icmp_ge (q := 52) 88 dX4_pair_49 (by decide) rfl (by omega) (by omega) (fun hc49 => ?_) (fun hc49 => absurd hc49 (by omega))
          refine x_aload_n (q := 89) dX4_pair_88 rfl rfl ?_
          refine x_aload_n (q := 90) dX4_pair_89 rfl rfl ?_
          refine c_get (q := 93) (k := 4) (f := 10) hM rfl xclX4 fwX4_48 (by decide) dX4_pair_90 rfl rfl ?_
          refine x_aload_n (q := 94) dX4_pair_93 rfl rfl ?_
          refine x_iload (q := 96) dX4_pair_94 rfl rfl ?_
          refine c_lald (q := 97) (k := la) (n := 10) hM (ela _) (by omega) (by decide) dX4_pair_96 rfl hi10 ?_
          refine x_topl (y := iL (lf i)) (by rw [k1 la hla2.1]; exact hlf i hi10) ?_
          refine c_call (q := 100) (k := an) (As := [_, _]) hM (cE_big _ _ anb) imX2_addTimes ivX2_addTimes ilX2_addTimes mwX4_93 xciX2 dX4_pair_97 rfl rfl rfl (Nat.le_of_ble_eq_true rfl) ?_
          refine (b_addTimes G l ad F R d σ1 an 157 anb ⟨by decide, by decide⟩ n3 (prI fr A lf rg i) (prJ fr A rg i 10) (lf i) k2 k3 hlb bb1 bb2).mono (fun x9 σ97 hp => ?_)
          obtain ⟨rfl, q1, q2⟩ := hp
          intro M N S hM
          show xX G l _ (d + 4) _ _ _ _ M N S
          refine xn_iinc (q := 103) (ls' := [(0, _), (1, _), (2, _), (3, _), (4, _), (5, _)]) [1, 2, 3, 4, 0, 5] 1 dX4_pair_100 rfl rfl (by decide) (by decide) rfl ?_
          refine x_goto 8 dX4_pair_103 (by decide) ?_
          refine x_ls (ls' := [(0, _), (1, _), (2, _), (3, _), (4, _)]) [0, 1, 2, 3, 4] rfl ?_
          exact ih (i + 1) σ97 M N S (by omega) (k1.trans (ka _ _ q1)) (by rw [hst, if_pos hf]; exact q2) hM

        | succ v ihv =>
          intro j σ1 M N S hj k1 k2 k3 hM
          have hj10 : j < 10 := by omega
          have hsj : prJ fr A rg i (j + 1) = prJ fr A rg i j + (if fr j = true then clP A i j * -rg j else 0) := rfl
          obtain ⟨tb, t157⟩ := pa_ck hi10 hj10
          have bb1 := bJ i hi10 j (by omega)
          have bb2 := bC i j hi10 hj10
          have hrb : (-rg j).natAbs ≤ 3000000000 := by rw [Int.natAbs_neg]; exact sr j hj10
          have hc1 := kpC σ1 k1 (max i j) (min i j) (by omega) (by omega)

          refine x_iload (q := 47) dX4_pair_45 rfl rfl ?_
          refine xn_bipush (q := 49) 10 dX4_pair_47 rfl (by decide) ?_
          refine xn_icmp_ge (q := 52) 88 dX4_pair_49 (by decide) rfl (by omega) (by omega) (fun hc49 => absurd hc49 (by omega)) (fun hc49 => ?_)
          refine x_aload_n (q := 53) dX4_pair_52 rfl rfl ?_
          refine c_get (q := 56) (k := 4) (f := 3) hM rfl xclX4 fwX4_20 (by decide) dX4_pair_53 rfl rfl ?_
          refine x_iload (q := 58) dX4_pair_56 rfl rfl ?_
          refine c_zald (q := 59) (k := 29) (n := 10) hM rfl (by decide) (by decide) dX4_pair_58 rfl hj10 ?_
          refine x_topi (y := bI (fr j)) (by rw [k1 29 hla2.2.2.1]; exact hfr j hj10) ?_
          refine x_if_eq (q := 62) 82 dX4_pair_59 (by decide) rfl (fun hc59 => ?_) (fun hc59 => ?_)
          · refine xn_iinc (q := 85) (ls' := [(0, _), (1, _), (2, _), (3, _), (4, _), (5, _)]) [1, 2, 3, 4, 5, 0] 1 dX4_pair_82 rfl rfl (by decide) (by decide) rfl ?_
            refine x_goto 45 dX4_pair_85 (by decide) ?_
            exact ihv (j + 1) σ1 M N S (by omega) k1 k2 (by rw [hsj, if_neg (fun z => by rw [bI_eq.mp hc59] at z; exact absurd z (by decide)), Int.add_zero]; exact k3) hM
          · refine x_aload_n (q := 63) dX4_pair_62 rfl rfl ?_
            refine c_get (q := 66) (k := 4) (f := 10) hM rfl xclX4 fwX4_48 (by decide) dX4_pair_63 rfl rfl ?_
            refine x_aload_n (q := 67) dX4_pair_66 rfl rfl ?_
            refine x_iload (q := 69) dX4_pair_67 rfl rfl ?_
            refine x_iload (q := 71) dX4_pair_69 rfl rfl ?_
            refine c_call (q := 74) (k := 4) (As := [_, _]) hM rfl imX4_cellOf ivX4_cellOf ilX4_cellOf mwX4_89 xciX4 dX4_pair_71 rfl rfl rfl (Nat.le_of_ble_eq_true rfl) ?_
            refine (b_cellOf G l ad F R (d + 3) σ1 i j hi10 hj10).mono (fun x9 σ9' hp => ?_)
            obtain ⟨rfl, e9⟩ := hp
            intro M N S hM
            rw [e9] at hM; clear e9 σ9'
            show xX G l _ (d + 4) _ _ _ _ M N S
            refine x_aload_n (q := 75) dX4_pair_74 rfl rfl ?_
            refine x_iload (q := 77) dX4_pair_75 rfl rfl ?_
            refine c_lald (q := 78) (k := ra) (n := 10) hM (era _) (by omega) (by decide) dX4_pair_77 rfl hj10 ?_
            refine x_topl (y := iL (rg j)) (by rw [k1 ra hla2.2.1]; exact hrg j hj10) ?_
            refine xi_lneg (q := 79) dX4_pair_78 rfl rfl ?_
            refine c_call (q := 82) (k := 157) (As := [_, _]) hM (cE_big _ _ ⟨by decide, by decide⟩) imX2_addTimes ivX2_addTimes ilX2_addTimes mwX4_93 xciX2 dX4_pair_79 rfl rfl rfl (Nat.le_of_ble_eq_true rfl) ?_
            refine (b_addTimes G l ad F R d σ1 157 (100 + tri (max i j) (min i j)) ⟨by decide, by decide⟩ tb t157 (prJ fr A rg i j) (clP A i j) (-rg j) k3 hc1 hrb bb1 bb2).mono (fun x9 σ79 hp => ?_)
            obtain ⟨rfl, q1, q2⟩ := hp
            intro M N S hM
            show xX G l _ (d + 4) _ _ _ _ M N S
            refine xn_iinc (q := 85) (ls' := [(0, _), (1, _), (2, _), (3, _), (4, _), (5, _)]) [1, 2, 3, 4, 5, 0] 1 dX4_pair_82 rfl rfl (by decide) (by decide) rfl ?_
            refine x_goto 45 dX4_pair_85 (by decide) ?_
            exact ihv (j + 1) σ79 M N S (by omega) (k1.trans (kb _ _ q1)) (q1.bg n1.1 n1.2 k2) (by rw [hsj, if_pos (bI_ne.mp hc59)]; exact q2) hM

      refine x_iload (q := 10) dX4_pair_8 rfl rfl ?_
      refine xn_bipush (q := 12) 10 dX4_pair_10 rfl (by decide) ?_
      refine xn_icmp_ge (q := 15) 106 dX4_pair_12 (by decide) rfl (by omega) (by omega) (fun hc12 => absurd hc12 (by omega)) (fun hc12 => ?_)
      refine x_aload_n (q := 16) dX4_pair_15 rfl rfl ?_
      refine c_get (q := 19) (k := 4) (f := 3) hM rfl xclX4 fwX4_20 (by decide) dX4_pair_16 rfl rfl ?_
      refine x_iload (q := 21) dX4_pair_19 rfl rfl ?_
      refine c_zald (q := 22) (k := 29) (n := 10) hM rfl (by decide) (by decide) dX4_pair_21 rfl hi10 ?_
      refine x_topi (y := bI (fr i)) (by rw [k1' 29 hla2.2.2.1]; exact hfr i hi10) ?_
      refine x_if_eq (q := 25) 100 dX4_pair_22 (by decide) rfl (fun hc22 => ?_) (fun hc22 => ?_)
      · refine xn_iinc (q := 103) (ls' := [(0, _), (1, _), (2, _), (3, _), (4, _)]) [1, 2, 3, 4, 0] 1 dX4_pair_100 rfl rfl (by decide) (by decide) rfl ?_
        refine x_goto 8 dX4_pair_103 (by decide) ?_
        exact ih (i + 1) σ0 M N S (by omega) k1' (by rw [hst, if_neg (fun z => by rw [bI_eq.mp hc22] at z; exact absurd z (by decide)), Int.add_zero]; exact k2') hM
      · refine x_aload_n (q := 26) dX4_pair_25 rfl rfl ?_
        refine x_iload (q := 28) dX4_pair_26 rfl rfl ?_
        refine c_lald (q := 29) (k := la) (n := 10) hM (ela _) (by omega) (by decide) dX4_pair_28 rfl hi10 ?_
        refine x_topl (y := iL (lf i)) (by rw [k1' la hla2.1]; exact hlf i hi10) ?_
        refine xn_lconst (q := 30) 0 dX4_pair_29 rfl (by decide) ?_
        refine xi_lcmp_eq (q1 := 31) (q := 34) 100 dX4_pair_30 rfl dX4_pair_31 (by decide) rfl rfl (lN_i' _) (by omega) (by omega) (by omega) (by omega) (fun hc30 => ?_) (fun hc30 => ?_)
        · refine xn_iinc (q := 103) (ls' := [(0, _), (1, _), (2, _), (3, _), (4, _)]) [1, 2, 3, 4, 0] 1 dX4_pair_100 rfl rfl (by decide) (by decide) rfl ?_
          refine x_goto 8 dX4_pair_103 (by decide) ?_
          exact ih (i + 1) σ0 M N S (by omega) k1' (by rw [hst, show lf i = 0 by omega, Int.mul_zero]; split <;> (rw [Int.add_zero]; exact k2')) hM
        · refine x_aload_n (q := 35) dX4_pair_34 rfl rfl ?_
          refine c_get (q := 38) (k := 4) (f := 10) hM rfl xclX4 fwX4_48 (by decide) dX4_pair_35 rfl rfl ?_
          refine xn_lconst (q := 39) 0 dX4_pair_38 rfl (by decide) ?_
          refine x_topl (y := iL 0) rfl ?_
          refine c_call (q := 42) (k := 157) (As := [_]) hM (cE_big _ _ ⟨by decide, by decide⟩) imX2_takeLong ivX2_takeLong ilX2_takeLong mwX4_85 xciX2 dX4_pair_39 rfl rfl rfl (Nat.le_of_ble_eq_true rfl) ?_
          refine (b_takeLong G l ad F R (d + 2) σ0 157 ⟨by decide, by decide⟩ 0 (by decide)).mono (fun x9 σ39 hp => ?_)
          obtain ⟨rfl, q1, q2⟩ := hp
          intro M N S hM
          show xX G l _ (d + 4) _ _ _ _ M N S
          refine xn_iconst (q := 43) 0 dX4_pair_42 rfl (by decide) ?_
          refine x_istore (q := 45) (ls' := [(0, _), (1, _), (2, _), (3, _), (4, _), (5, _)]) [1, 2, 3, 4, 5, 0] dX4_pair_43 rfl (by decide) rfl ?_
          exact inner (bI_ne.mp hc22) 10 0 σ39 M N S (by decide) (k1'.trans (kb _ _ q1)) (q1.bg n1.1 n1.2 k2') q2 hM

  refine cC.of (ls := [(0, .ref (ad 4)), (1, .ref (ad la)), (2, .ref (ad ra)), (3, .ref (ad an))]) (by decide) (Nat.le_of_ble_eq_true rfl) rfl fun M N S hM => ?_

  refine x_aload_n (q := 1) dX4_pair_0 rfl rfl ?_
  refine xn_lconst (q := 2) 0 dX4_pair_1 rfl (by decide) ?_
  refine x_topl (y := iL 0) rfl ?_
  refine c_call (q := 5) (k := an) (As := [_]) hM (cE_big _ _ anb) imX2_takeLong ivX2_takeLong ilX2_takeLong mwX4_85 xciX2 dX4_pair_2 rfl rfl rfl (Nat.le_of_ble_eq_true rfl) ?_
  refine (b_takeLong G l ad F R (d + 2) σ an anb 0 (by decide)).mono (fun x9 σ2 hp => ?_)
  obtain ⟨rfl, q1, q2⟩ := hp
  intro M N S hM
  show xX G l _ (d + 4) _ _ _ _ M N S
  refine xn_iconst (q := 6) 0 dX4_pair_5 rfl (by decide) ?_
  refine x_istore (q := 8) (ls' := [(0, _), (1, _), (2, _), (3, _), (4, _)]) [1, 2, 3, 4, 0] dX4_pair_6 rfl (by decide) rfl ?_
  exact outer 10 0 σ2 M N S (by decide) (ka _ _ q1) q2 hM

end XC5
