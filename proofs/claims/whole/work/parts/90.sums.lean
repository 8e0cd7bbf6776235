section XE7
def cTn (c : mCf) (rs : List (Nat × Nat × Nat)) (n : Int) : Bool := decide (0 ≤ n ∧ n < (rs.length : Int) ∧ (rowAt rs n.toNat).1 = 2 ∧ slN (slC c) 4 = 0) && tuC c (rowAt rs n.toNat).2.1 (rowAt rs n.toNat).2.2 (5 * c.m)

set_option maxRecDepth 100000 in
set_option maxHeartbeats 4000000 in
theorem b_turned (G : xG) (l : Launch) (ad : Nat → Nat) (F : xM) (R : Nat × Nat) (d : Nat) (σ : cZ) (c : mCf) (t : List Nat) (rs : List (Nat × Nat × Nat)) (hok : okL c) (hfo : frOk c) (hC : Ci σ c t rs) (n : Int) (hn1 : -2147483648 ≤ n) (hn2 : n < 2147483648) : cC G l ad F R YX8_turned (d + 7) [.ref (ad 0), .int (iI n)] σ (fun r σ' => r = some (.int (bI (cTn c rs n))) ∧ Ci σ' c t rs) := by
  have hm := hok.1
  have hC0 := hC
  obtain ⟨hc, ht, hr, hF, -⟩ := hC
  have h8 := hr.1
  have loop : 0 ≤ n ∧ n < (rs.length : Int) ∧ (rowAt rs n.toNat).1 = 2 ∧ slN (slC c) 4 = 0 → ∀ (u k p : Nat) (σ1 : cZ) (M : xM) (N S : Nat), 5 * k + p + u = 5 * c.m → p ≤ 4 → k < c.m → Cj σ1 c t rs → Tl σ1 c rs → cA G ad F R σ1 M N S → xX G l YX8_turned (d + 7) (cQ G ad F R (fun r σ' => r = some (.int (bI (cTn c rs n))) ∧ Ci σ' c t rs)) 52 [(0, .ref (ad 0)), (1, .int (iI n)), (2, .int (bI (tuC c (rowAt rs n.toNat).2.1 (rowAt rs n.toNat).2.2 (5 * k + p)))), (3, .int (nI k)), (4, .int (nI p))] [] M N S := by
    intro hw u
    induction u with
    | zero => intro k p σ1 M N S h1 h2 h3; omega
    | succ u ih =>
      intro k p σ1 M N S h1 h2 h3 hJ hT hM
      have nxt : ∀ (σ2 : cZ) (M : xM) (N S : Nat), Cj σ2 c t rs → Tl σ2 c rs → cA G ad F R σ2 M N S → xX G l YX8_turned (d + 7) (cQ G ad F R (fun r σ' => r = some (.int (bI (cTn c rs n))) ∧ Ci σ' c t rs)) 52 [(0, .ref (ad 0)), (1, .int (iI n)), (2, .int (bI (tuC c (rowAt rs n.toNat).2.1 (rowAt rs n.toNat).2.2 (5 * k + p + 1)))), (3, .int (nI k)), (4, .int (nI (p + 1)))] [] M N S := by
        intro σ2 M N S hJ hT hM
        by_cases hp : p + 1 ≤ 4
        · exact ih k (p + 1) σ2 M N S (by omega) hp h3 hJ hT hM
        · have ep : p = 4 := by omega
          subst ep
          have eb : tuC c (rowAt rs n.toNat).2.1 (rowAt rs n.toNat).2.2 (5 * k + 4 + 1) = tuC c (rowAt rs n.toNat).2.1 (rowAt rs n.toNat).2.2 (5 * (k + 1) + 0) := rfl

          refine x_iload (q := 54) dX8_turned_52 rfl rfl ?_
          refine xn_iconst (q := 55) 4 dX8_turned_54 rfl (by decide) ?_
          refine xn_icmp_gt (q := 58) 85 dX8_turned_55 (by decide) rfl (by omega) (by omega) (fun hc55 => ?_) (fun hc55 => absurd hc55 (by omega))
          refine xn_iinc (q := 88) (ls' := [(0, _), (1, _), (2, _), (3, _), (4, _)]) [1, 2, 3, 0, 4] 1 dX8_turned_85 rfl rfl (by decide) (by decide) rfl ?_
          refine x_goto 38 dX8_turned_88 (by decide) ?_
          refine x_iload_n (q := 39) dX8_turned_38 rfl rfl ?_
          refine x_aload_n (q := 40) dX8_turned_39 rfl rfl ?_
          refine c_get (q := 43) (k := 0) (f := 0) hM rfl xclX8 fwX8_10 (by decide) dX8_turned_40 rfl rfl ?_
          refine c_get (q := 46) (k := 1) (f := 6) hM rfl xclX1 fwX8_201 (by decide) dX8_turned_43 rfl rfl ?_
          refine x_topi (y := nI c.m) (by exact hJ.1.2.1) ?_
          refine xn_icmp_ge (q := 49) 91 dX8_turned_46 (by decide) rfl (by omega) (by omega) (fun hc46 => ?_) (fun hc46 => ?_)
          · refine x_iload_n (q := 92) dX8_turned_91 rfl rfl ?_
            have ek : 5 * k + 4 + 1 = 5 * c.m := by omega
            exact x_zret rfl (bI_n _) dX8_turned_92 (c_ret hM ⟨by rw [ek, show cTn c rs n = tuC c (rowAt rs n.toNat).2.1 (rowAt rs n.toNat).2.2 (5 * c.m) by unfold cTn; rw [decide_eq_true hw, Bool.true_and]], hJ.ci hT⟩)
          · refine xn_iconst (q := 50) 0 dX8_turned_49 rfl (by decide) ?_
            refine x_istore (q := 52) (ls' := [(0, _), (1, _), (2, _), (3, _), (4, _)]) [1, 2, 3, 4, 0] dX8_turned_50 rfl (by decide) rfl ?_
            exact ih (k + 1) 0 σ2 M N S (by omega) (by omega) (by omega) hJ hT hM

      refine x_iload (q := 54) dX8_turned_52 rfl rfl ?_
      refine xn_iconst (q := 55) 4 dX8_turned_54 rfl (by decide) ?_
      refine xn_icmp_gt (q := 58) 85 dX8_turned_55 (by decide) rfl (by omega) (by omega) (fun hc55 => absurd hc55 (by omega)) (fun hc55 => ?_)
      refine x_iload_n (q := 59) dX8_turned_58 rfl rfl ?_
      refine x_if_eq (q := 62) 77 dX8_turned_59 (by decide) rfl (fun hc59 => ?_) (fun hc59 => ?_)
      · refine xn_iconst (q := 78) 0 dX8_turned_77 rfl (by decide) ?_
        refine x_topi (y := bI (tuC c (rowAt rs n.toNat).2.1 (rowAt rs n.toNat).2.2 (5 * k + p + 1))) (by rw [tuC_s (by omega), bI_eq.mp hc59, Bool.false_and]; rfl) ?_
        refine x_istore_n (q := 79) (ls' := [(0, _), (1, _), (2, _), (3, _), (4, _)]) [1, 2, 0, 3, 4] dX8_turned_78 rfl (by decide) rfl ?_
        refine xn_iinc (q := 82) (ls' := [(0, _), (1, _), (2, _), (3, _), (4, _)]) [1, 2, 3, 4, 0] 1 dX8_turned_79 rfl rfl (by decide) (by decide) rfl ?_
        refine x_goto 52 dX8_turned_82 (by decide) ?_
        exact nxt σ1 M N S hJ hT hM
      · refine x_aload_n (q := 63) dX8_turned_62 rfl rfl ?_
        refine x_iload_n (q := 64) dX8_turned_63 rfl rfl ?_
        refine x_topi (y := nI n.toNat) (iI_nat hw.1) ?_
        refine x_iload_n (q := 65) dX8_turned_64 rfl rfl ?_
        refine x_iload (q := 67) dX8_turned_65 rfl rfl ?_
        refine c_call (q := 70) (k := 0) (As := [_, _, _]) hM rfl imX8_isExchanged ivX8_isExchanged ilX8_isExchanged mwX8_204 xciX8 dX8_turned_67 rfl rfl rfl (Nat.le_of_ble_eq_true rfl) ?_
        refine (b_isExchanged G l ad F R (d + 0) σ1 c t rs hok hfo hJ n.toNat k p (by omega) hw.2.2.1 h3 h2).mono (fun x9 σ67 hp => ?_)
        obtain ⟨rfl, e2, e3⟩ := hp
        intro M N S hM
        show xX G l _ (d + 7) _ _ _ _ M N S
        refine x_if_eq (q := 73) 77 dX8_turned_70 (by decide) rfl (fun hc70 => ?_) (fun hc70 => ?_)
        · refine xn_iconst (q := 78) 0 dX8_turned_77 rfl (by decide) ?_
          refine x_topi (y := bI (tuC c (rowAt rs n.toNat).2.1 (rowAt rs n.toNat).2.2 (5 * k + p + 1))) (by rw [tuC_s (by omega), bI_ne.mp hc59, bI_eq.mp hc70, Bool.and_false]; rfl) ?_
          refine x_istore_n (q := 79) (ls' := [(0, _), (1, _), (2, _), (3, _), (4, _)]) [1, 2, 0, 3, 4] dX8_turned_78 rfl (by decide) rfl ?_
          refine xn_iinc (q := 82) (ls' := [(0, _), (1, _), (2, _), (3, _), (4, _)]) [1, 2, 3, 4, 0] 1 dX8_turned_79 rfl rfl (by decide) (by decide) rfl ?_
          refine x_goto 52 dX8_turned_82 (by decide) ?_
          exact nxt σ67 M N S e2 (Tl.none e3) hM
        · refine xn_iconst (q := 74) 1 dX8_turned_73 rfl (by decide) ?_
          refine x_goto 78 dX8_turned_74 (by decide) ?_
          refine x_topi (y := bI (tuC c (rowAt rs n.toNat).2.1 (rowAt rs n.toNat).2.2 (5 * k + p + 1))) (by rw [tuC_s (by omega), bI_ne.mp hc59, bI_ne.mp hc70, Bool.and_true]; rfl) ?_
          refine x_istore_n (q := 79) (ls' := [(0, _), (1, _), (2, _), (3, _), (4, _)]) [1, 2, 0, 3, 4] dX8_turned_78 rfl (by decide) rfl ?_
          refine xn_iinc (q := 82) (ls' := [(0, _), (1, _), (2, _), (3, _), (4, _)]) [1, 2, 3, 4, 0] 1 dX8_turned_79 rfl rfl (by decide) (by decide) rfl ?_
          refine x_goto 52 dX8_turned_82 (by decide) ?_
          exact nxt σ67 M N S e2 (Tl.none e3) hM

  refine cC.of (ls := [(0, .ref (ad 0)), (1, .int (iI n))]) (by decide) (Nat.le_of_ble_eq_true rfl) rfl fun M N S hM => ?_

  refine x_aload_n (q := 1) dX8_turned_0 rfl rfl ?_
  refine c_get (q := 4) (k := 0) (f := 3) hM rfl xclX8 fwX8_31 (by decide) dX8_turned_1 rfl rfl ?_
  refine c_call (q := 7) (k := 4) (As := []) hM rfl imX4_prepare ivX4_prepare ilX4_prepare mwX8_136 xciX4 dX8_turned_4 rfl rfl rfl (Nat.le_of_ble_eq_true rfl) ?_
  refine (b_prepare G l ad F R d σ c hc hok hfo hF).mono (fun x9 σ4 hp => ?_)
  obtain ⟨rfl, q1, q2, q3⟩ := hp
  intro M N S hM
  show xX G l _ (d + 7) _ _ _ _ M N S
  obtain ⟨hJ, hT⟩ := hC0.prep q1 q2 q3
  refine x_aload_n (q := 8) dX8_turned_7 rfl rfl ?_
  refine x_iload_n (q := 9) dX8_turned_8 rfl rfl ?_
  refine c_call (q := 12) (k := 0) (As := [_]) hM rfl imX8_isRow ivX8_isRow ilX8_isRow mwX8_194 xciX8 dX8_turned_9 rfl rfl rfl (Nat.le_of_ble_eq_true rfl) ?_
  refine (b_isRow G l ad F R (d + 6) σ4 c rs hJ.2.2.1 n hn1 hn2).mono (fun x9 σ9' hp => ?_)
  obtain ⟨rfl, e9⟩ := hp
  intro M N S hM
  rw [e9] at hM; clear e9 σ9'
  show xX G l _ (d + 7) _ _ _ _ M N S
  refine x_if_eq (q := 15) 32 dX8_turned_12 (by decide) rfl (fun hc12 => ?_) (fun hc12 => ?_)
  · refine xn_iconst (q := 33) 0 dX8_turned_32 rfl (by decide) ?_
    exact x_zret rfl (by decide) dX8_turned_33 (c_ret hM ⟨by rw [show cTn c rs n = false by unfold cTn; rw [decide_eq_false (fun z => by have h9 := of_decide_eq_false (bI_eq.mp hc12); omega), Bool.false_and]]; rfl, hJ.ci hT⟩)
  · have hr9 := of_decide_eq_true (bI_ne.mp hc12)
    have hr4 := hJ.2.2.1.2.2 n.toNat (by omega)
    have hl8 : n.toNat < 8 := by omega
    have hw3 : (rowAt rs n.toNat).1 ≤ 3 := by have h9 : okRow c (rowAt rs n.toNat) := hr4.2.2.2; rcases h9 with z | z <;> omega
    refine x_aload_n (q := 16) dX8_turned_15 rfl rfl ?_
    refine c_get (q := 19) (k := 0) (f := 9) hM rfl xclX8 fwX8_68 (by decide) dX8_turned_16 rfl rfl ?_
    refine x_iload_n (q := 20) dX8_turned_19 rfl rfl ?_
    refine x_topi (y := nI n.toNat) (iI_nat (by omega)) ?_
    refine c_iald (q := 21) (k := 11) (n := 8) hM rfl (by decide) (by decide) dX8_turned_20 rfl hl8 ?_
    refine x_topi (y := nI (rowAt rs n.toNat).1) (by exact hr4.1) ?_
    refine xn_iconst (q := 22) 2 dX8_turned_21 rfl (by decide) ?_
    refine xn_icmp_ne (q := 25) 32 dX8_turned_22 (by decide) rfl (by omega) (by omega) (fun hc22 => ?_) (fun hc22 => ?_)
    · refine xn_iconst (q := 33) 0 dX8_turned_32 rfl (by decide) ?_
      exact x_zret rfl (by decide) dX8_turned_33 (c_ret hM ⟨by rw [show cTn c rs n = false by unfold cTn; rw [decide_eq_false (fun z => by omega), Bool.false_and]]; rfl, hJ.ci hT⟩)
    · refine x_aload_n (q := 26) dX8_turned_25 rfl rfl ?_
      refine c_call (q := 29) (k := 0) (As := []) hM rfl imX8_isLoose ivX8_isLoose ilX8_isLoose mwX8_197 xciX8 dX8_turned_26 rfl rfl rfl (Nat.le_of_ble_eq_true rfl) ?_
      refine (b_isLoose G l ad F R (d + 5) σ4 (slC c) hJ.2.2.2.1.2.2.2.2.2.2.2).mono (fun x9 σ9' hp => ?_)
      obtain ⟨rfl, e9⟩ := hp
      intro M N S hM
      rw [e9] at hM; clear e9 σ9'
      show xX G l _ (d + 7) _ _ _ _ M N S
      refine x_if_eq (q := 32) 34 dX8_turned_29 (by decide) rfl (fun hc29 => ?_) (fun hc29 => ?_)
      · refine xn_iconst (q := 35) 1 dX8_turned_34 rfl (by decide) ?_
        refine x_topi (y := bI true) rfl ?_
        refine x_istore_n (q := 36) (ls' := [(0, _), (1, _), (2, _)]) [1, 2, 0] dX8_turned_35 rfl (by decide) rfl ?_
        refine xn_iconst (q := 37) 0 dX8_turned_36 rfl (by decide) ?_
        refine x_istore_n (q := 38) (ls' := [(0, _), (1, _), (2, _), (3, _)]) [1, 2, 3, 0] dX8_turned_37 rfl (by decide) rfl ?_
        refine x_iload_n (q := 39) dX8_turned_38 rfl rfl ?_
        refine x_aload_n (q := 40) dX8_turned_39 rfl rfl ?_
        refine c_get (q := 43) (k := 0) (f := 0) hM rfl xclX8 fwX8_10 (by decide) dX8_turned_40 rfl rfl ?_
        refine c_get (q := 46) (k := 1) (f := 6) hM rfl xclX1 fwX8_201 (by decide) dX8_turned_43 rfl rfl ?_
        refine x_topi (y := nI c.m) (by exact hJ.1.2.1) ?_
        refine xn_icmp_ge (q := 49) 91 dX8_turned_46 (by decide) rfl (by omega) (by omega) (fun hc46 => ?_) (fun hc46 => ?_)
        · refine x_iload_n (q := 92) dX8_turned_91 rfl rfl ?_
          have h9 := of_decide_eq_false (bI_eq.mp hc29)
          have em : 0 = c.m := by omega
          exact x_zret rfl (by decide) dX8_turned_92 (c_ret hM ⟨by rw [show cTn c rs n = true by unfold cTn; rw [← em, decide_eq_true ⟨hr9.1, hr9.2, hc22, by omega⟩]; rfl], hJ.ci hT⟩)
        · refine xn_iconst (q := 50) 0 dX8_turned_49 rfl (by decide) ?_
          refine x_istore (q := 52) (ls' := [(0, _), (1, _), (2, _), (3, _), (4, _)]) [1, 2, 3, 4, 0] dX8_turned_50 rfl (by decide) rfl ?_
          have h9 := of_decide_eq_false (bI_eq.mp hc29)
          exact loop ⟨hr9.1, hr9.2, hc22, by omega⟩ (5 * c.m) 0 0 σ4 M N S (by omega) (by omega) (by omega) hJ hT hM
      · refine xn_iconst (q := 33) 0 dX8_turned_32 rfl (by decide) ?_
        exact x_zret rfl (by decide) dX8_turned_33 (c_ret hM ⟨by rw [show cTn c rs n = false by unfold cTn; rw [decide_eq_false (fun z => by have h9 := of_decide_eq_true (bI_ne.mp hc29); omega), Bool.false_and]]; rfl, hJ.ci hT⟩)


def asA (c : mCf) : Nat → Bool := fun i => decide (i ≤ c.m) && c.Hi i
def suX (c : mCf) (k p : Nat) : Bool := decide (meP c (lfA c (c.m + 1)) (-1) (owP c 3 0 0 k p (asA c)) k p = (swP c 10).2.1 * ((64 * scP c c.m : Nat) : Int))
def suC (c : mCf) : Nat → Bool
  | 0 => true
  | n + 1 => suC c n && suX c (n / 5) (n % 5)
theorem suC_s {c : mCf} {k p : Nat} (hp : p < 5) : suC c (5 * k + p + 1) = (suC c (5 * k + p) && suX c k p) := by
  show (_ && suX c ((5 * k + p) / 5) ((5 * k + p) % 5)) = _
  rw [show (5 * k + p) / 5 = k by omega, show (5 * k + p) % 5 = p by omega]
def cSu (c : mCf) : Bool := decide (slN (slC c) 4 = 0) && suC c (5 * c.m)

set_option maxRecDepth 100000 in
set_option maxHeartbeats 4000000 in
theorem b_sums (G : xG) (l : Launch) (ad : Nat → Nat) (F : xM) (R : Nat × Nat) (d : Nat) (σ : cZ) (c : mCf) (t : List Nat) (rs : List (Nat × Nat × Nat)) (hok : okL c) (hfo : frOk c) (hm1 : 1 ≤ c.m) (hC : Ci σ c t rs) : cC G l ad F R YX8_sums (d + 7) [.ref (ad 0)] σ (fun r σ' => r = some (.int (bI (cSu c))) ∧ Ci σ' c t rs) := by
  have hm := hok.1
  have hC0 := hC
  obtain ⟨hc, ht, hr, hF, -⟩ := hC
  have hrow : okRow c (3, 0, 0) := .inr ⟨rfl, Nat.zero_le _, rfl⟩
  have hwh := whP_le (w := 3) (k := 0) (q := 0) hok hrow
  have hbd : (swP c 10).2.1.natAbs < B9 ^ 1000 := B9up (hfo 10 (Nat.le_refl _)).2 (by decide)
  have fin : slN (slC c) 4 = 0 → ∀ (k p : Nat) (b : Bool) (σ1 : cZ) (M : xM) (N S : Nat), b = suC c (5 * c.m) → Cj σ1 c t rs → cA G ad F R σ1 M N S → xX G l YX8_sums (d + 7) (cQ G ad F R (fun r σ' => r = some (.int (bI (cSu c))) ∧ Ci σ' c t rs)) 118 [(0, .ref (ad 0)), (1, .int (bI (b))), (2, .int (nI k)), (3, .int (nI p))] [] M N S := by
    intro hw k p b σ1 M N S hb hJ hM

    refine x_aload_n (q := 119) dX8_sums_118 rfl rfl ?_
    refine x_ldc2 (q := 122) (-1) dX8_sums_119 rfl cwX8_82 ?_
    refine x_topl (y := iL (-1)) (by decide) ?_
    refine c_putl (q := 125) (k := 0) (f := 13) hM rfl rfl xclX8 fwX8_84 (by decide) rfl rfl (Nat.le_of_ble_eq_true rfl) dX8_sums_122 rfl rfl rfl (fun M σ122 a122 e122 b122 hM => ?_)
    refine x_iload_n (q := 126) dX8_sums_125 rfl rfl ?_
    exact x_zret rfl (bI_n _) dX8_sums_126 (c_ret hM ⟨by rw [hb, show cSu c = suC c (5 * c.m) by unfold cSu; rw [decide_eq_true hw, Bool.true_and]], (hJ.key a122 b122.1).ci (Tl.none (by rw [e122, mu_s]))⟩)

  have loop : slN (slC c) 4 = 0 → ∀ (u k p : Nat) (σ1 : cZ) (M : xM) (N S : Nat), 5 * k + p + u = 5 * c.m → p ≤ 4 → k < c.m → Cj σ1 c t rs → Pb σ1 5 3 0 0 (lfA c (c.m + 1)) (-1) ((64 * scP c c.m : Nat) : Int) (asA c) → cA G ad F R σ1 M N S → xX G l YX8_sums (d + 7) (cQ G ad F R (fun r σ' => r = some (.int (bI (cSu c))) ∧ Ci σ' c t rs)) 40 [(0, .ref (ad 0)), (1, .int (bI (suC c (5 * k + p)))), (2, .int (nI k)), (3, .int (nI p))] [] M N S := by
    intro hw u
    induction u with
    | zero => intro k p σ1 M N S h1 h2 h3; clear hbd hwh; omega
    | succ u ih =>
      intro k p σ1 M N S h1 h2 h3 hJ hB hM
      have nxt : ∀ (σ2 : cZ) (M : xM) (N S : Nat), Cj σ2 c t rs → Pb σ2 5 3 0 0 (lfA c (c.m + 1)) (-1) ((64 * scP c c.m : Nat) : Int) (asA c) → cA G ad F R σ2 M N S → xX G l YX8_sums (d + 7) (cQ G ad F R (fun r σ' => r = some (.int (bI (cSu c))) ∧ Ci σ' c t rs)) 40 [(0, .ref (ad 0)), (1, .int (bI (suC c (5 * k + p + 1)))), (2, .int (nI k)), (3, .int (nI (p + 1)))] [] M N S := by
        clear hbd hwh
        intro σ2 M N S hJ hB hM
        by_cases hp : p + 1 ≤ 4
        · exact ih k (p + 1) σ2 M N S (by omega) hp h3 hJ hB hM
        · have ep : p = 4 := by omega
          subst ep

          refine x_iload_n (q := 41) dX8_sums_40 rfl rfl ?_
          refine xn_iconst (q := 42) 4 dX8_sums_41 rfl (by decide) ?_
          refine xn_icmp_gt (q := 45) 112 dX8_sums_42 (by decide) rfl (by omega) (by omega) (fun hc42 => ?_) (fun hc42 => absurd hc42 (by omega))
          refine xn_iinc (q := 115) (ls' := [(0, _), (1, _), (2, _), (3, _)]) [1, 2, 0, 3] 1 dX8_sums_112 rfl rfl (by decide) (by decide) rfl ?_
          refine x_goto 27 dX8_sums_115 (by decide) ?_
          refine x_iload_n (q := 28) dX8_sums_27 rfl rfl ?_
          refine x_aload_n (q := 29) dX8_sums_28 rfl rfl ?_
          refine c_get (q := 32) (k := 0) (f := 0) hM rfl xclX8 fwX8_10 (by decide) dX8_sums_29 rfl rfl ?_
          refine c_get (q := 35) (k := 1) (f := 6) hM rfl xclX1 fwX8_201 (by decide) dX8_sums_32 rfl rfl ?_
          refine x_topi (y := nI c.m) (by exact hJ.1.2.1) ?_
          refine xn_icmp_ge (q := 38) 118 dX8_sums_35 (by decide) rfl (by omega) (by omega) (fun hc35 => ?_) (fun hc35 => ?_)
          · have ek : 5 * k + 4 + 1 = 5 * c.m := by omega
            exact fin hw _ _ _ σ2 M N S (by rw [ek]) hJ hM
          · refine xn_iconst (q := 39) 0 dX8_sums_38 rfl (by decide) ?_
            refine x_istore_n (q := 40) (ls' := [(0, _), (1, _), (2, _), (3, _)]) [1, 2, 3, 0] dX8_sums_39 rfl (by decide) rfl ?_
            exact ih (k + 1) 0 σ2 M N S (by omega) (by omega) (by omega) hJ hB hM

      refine x_iload_n (q := 41) dX8_sums_40 rfl rfl ?_
      refine xn_iconst (q := 42) 4 dX8_sums_41 rfl (by decide) ?_
      refine xn_icmp_gt (q := 45) 112 dX8_sums_42 (by decide) rfl (by clear hbd hwh; omega) (by clear hbd hwh; omega) (fun hc42 => absurd hc42 (by clear hbd hwh; omega)) (fun hc42 => ?_)
      refine x_aload_n (q := 46) dX8_sums_45 rfl rfl ?_
      refine c_get (q := 49) (k := 0) (f := 4) hM rfl xclX8 fwX8_40 (by decide) dX8_sums_46 rfl rfl ?_
      refine x_iload_n (q := 50) dX8_sums_49 rfl rfl ?_
      refine x_iload_n (q := 51) dX8_sums_50 rfl rfl ?_
      refine c_call (q := 54) (k := 5) (As := [_, _]) hM rfl imX5_put ivX5_put ilX5_put mwX8_166 xciX5 dX8_sums_51 rfl rfl rfl (Nat.le_of_ble_eq_true rfl) ?_
      refine (b_put G l ad F R (d + 4) σ1 5 (.inl rfl) c hJ.1 hok hJ.2.2.2.1.2.fz k p h3 h2).mono (fun x9 σ51 hp => ?_)
      obtain ⟨rfl, s1, s2, s3, s4⟩ := hp
      intro M N S hM
      show xX G l _ (d + 7) _ _ _ _ M N S
      have J2 := hJ.of_kp s1 (by decide)
      have hPb := hB.put s1 s2 s3
      refine x_aload_n (q := 55) dX8_sums_54 rfl rfl ?_
      refine c_get (q := 58) (k := 0) (f := 4) hM rfl xclX8 fwX8_40 (by decide) dX8_sums_55 rfl rfl ?_
      refine x_aload_n (q := 59) dX8_sums_58 rfl rfl ?_
      refine c_get (q := 62) (k := 0) (f := 8) hM rfl xclX8 fwX8_64 (by decide) dX8_sums_59 rfl rfl ?_
      refine c_call (q := 65) (k := 5) (As := [_]) hM rfl imX5_measure ivX5_measure ilX5_measure mwX8_173 xciX5 dX8_sums_62 rfl rfl rfl (Nat.le_of_ble_eq_true rfl) ?_
      refine (b_measure G l ad F R (d + 1) σ51 5 (.inl rfl) 159 (by decide) (by decide) c J2.1 hok hfo J2.2.2.2.1.2 _ _ _ k p _ _ _ _ hrow hPb ⟨by rw [s2, mu_n (by decide), mu_s], by rw [s2, mu_s], s4⟩ h3 h2 (lfA_sm hok) (by decide)).mono (fun x9 σ62 hp => ?_)
      obtain ⟨rfl, t1, t2⟩ := hp
      intro M N S hM
      show xX G l _ (d + 7) _ _ _ _ M N S
      have J3 := J2.of_kp t1 (by decide)
      have hPb3 := hPb.of_kp t1 (by decide) (by decide) (by decide)
      refine x_aload_n (q := 66) dX8_sums_65 rfl rfl ?_
      refine c_get (q := 69) (k := 0) (f := 4) hM rfl xclX8 fwX8_40 (by decide) dX8_sums_66 rfl rfl ?_
      refine x_aload_n (q := 70) dX8_sums_69 rfl rfl ?_
      refine c_get (q := 73) (k := 0) (f := 7) hM rfl xclX8 fwX8_57 (by decide) dX8_sums_70 rfl rfl ?_
      refine c_get (q := 76) (k := 8) (f := 1) hM rfl xclX6 fwX8_177 (by decide) dX8_sums_73 rfl rfl ?_
      refine c_call (q := 79) (k := 5) (As := [_]) hM rfl imX5_under ivX5_under ilX5_under mwX8_180 xciX5 dX8_sums_76 rfl rfl rfl (Nat.le_of_ble_eq_true rfl) ?_
      refine (b_under G l ad F R (d + 2) σ62 5 (.inl rfl) 172 ⟨by decide, by decide⟩ (by decide) _ _ J3.2.2.2.1.2.2.2.2.2.2.1 hPb3.2.2.1 hwh hbd).mono (fun x9 σ76 hp => ?_)
      obtain ⟨rfl, v1, v2⟩ := hp
      intro M N S hM
      show xX G l _ (d + 7) _ _ _ _ M N S
      have J4 := J3.of_kp v1 (by decide)
      have hPb4 := hPb3.of_kp v1 (by decide) (by decide) (by decide)
      refine x_iload_n (q := 80) dX8_sums_79 rfl rfl ?_
      refine x_if_eq (q := 83) 104 dX8_sums_80 (by decide) rfl (fun hc80 => ?_) (fun hc80 => ?_)
      · refine xn_iconst (q := 105) 0 dX8_sums_104 rfl (by decide) ?_
        refine x_topi (y := bI (suC c (5 * k + p + 1))) (by clear hbd hwh; rw [suC_s (by omega), bI_eq.mp hc80, Bool.false_and]; rfl) ?_
        refine x_istore_n (q := 106) (ls' := [(0, _), (1, _), (2, _), (3, _)]) [1, 0, 2, 3] dX8_sums_105 rfl (by decide) rfl ?_
        refine xn_iinc (q := 109) (ls' := [(0, _), (1, _), (2, _), (3, _)]) [1, 2, 3, 0] 1 dX8_sums_106 rfl rfl (by decide) (by decide) rfl ?_
        refine x_goto 40 dX8_sums_109 (by decide) ?_
        exact nxt σ76 M N S J4 hPb4 hM
      · refine x_aload_n (q := 84) dX8_sums_83 rfl rfl ?_
        refine c_get (q := 87) (k := 0) (f := 8) hM rfl xclX8 fwX8_64 (by decide) dX8_sums_84 rfl rfl ?_
        refine x_aload_n (q := 88) dX8_sums_87 rfl rfl ?_
        refine c_get (q := 91) (k := 0) (f := 7) hM rfl xclX8 fwX8_57 (by decide) dX8_sums_88 rfl rfl ?_
        refine c_get (q := 94) (k := 8) (f := 1) hM rfl xclX6 fwX8_177 (by decide) dX8_sums_91 rfl rfl ?_
        refine c_call (q := 97) (k := 159) (As := [_]) hM (cE_big _ _ ⟨by decide, by decide⟩) imX2_isSame ivX2_isSame ilX2_isSame mwX8_210 xciX2 dX8_sums_94 rfl rfl rfl (Nat.le_of_ble_eq_true rfl) ?_
        refine (b_isSame G l ad F R (d + 5) σ76 159 172 ⟨by decide, by decide⟩ ⟨by decide, by decide⟩ _ _ (v1.bg (by decide) (by decide) t2) v2).mono (fun x9 σ9' hp => ?_)
        obtain ⟨rfl, e9⟩ := hp
        intro M N S hM
        rw [e9] at hM; clear e9 σ9'
        show xX G l _ (d + 7) _ _ _ _ M N S
        refine x_if_eq (q := 100) 104 dX8_sums_97 (by decide) rfl (fun hc97 => ?_) (fun hc97 => ?_)
        · refine xn_iconst (q := 105) 0 dX8_sums_104 rfl (by decide) ?_
          refine x_topi (y := bI (suC c (5 * k + p + 1))) (by clear hbd hwh; rw [suC_s (by omega), bI_ne.mp hc80, show suX c k p = false from bI_eq.mp hc97, Bool.and_false]; rfl) ?_
          refine x_istore_n (q := 106) (ls' := [(0, _), (1, _), (2, _), (3, _)]) [1, 0, 2, 3] dX8_sums_105 rfl (by decide) rfl ?_
          refine xn_iinc (q := 109) (ls' := [(0, _), (1, _), (2, _), (3, _)]) [1, 2, 3, 0] 1 dX8_sums_106 rfl rfl (by decide) (by decide) rfl ?_
          refine x_goto 40 dX8_sums_109 (by decide) ?_
          exact nxt σ76 M N S J4 hPb4 hM
        · refine xn_iconst (q := 101) 1 dX8_sums_100 rfl (by decide) ?_
          refine x_goto 105 dX8_sums_101 (by decide) ?_
          refine x_topi (y := bI (suC c (5 * k + p + 1))) (by clear hbd hwh; rw [suC_s (by omega), bI_ne.mp hc80, show suX c k p = true from bI_ne.mp hc97, Bool.and_true]; rfl) ?_
          refine x_istore_n (q := 106) (ls' := [(0, _), (1, _), (2, _), (3, _)]) [1, 0, 2, 3] dX8_sums_105 rfl (by decide) rfl ?_
          refine xn_iinc (q := 109) (ls' := [(0, _), (1, _), (2, _), (3, _)]) [1, 2, 3, 0] 1 dX8_sums_106 rfl rfl (by decide) (by decide) rfl ?_
          refine x_goto 40 dX8_sums_109 (by decide) ?_
          exact nxt σ76 M N S J4 hPb4 hM

  refine cC.of (ls := [(0, .ref (ad 0))]) (by decide) (Nat.le_of_ble_eq_true rfl) rfl fun M N S hM => ?_

  refine x_aload_n (q := 1) dX8_sums_0 rfl rfl ?_
  refine c_get (q := 4) (k := 0) (f := 3) hM rfl xclX8 fwX8_31 (by decide) dX8_sums_1 rfl rfl ?_
  refine c_call (q := 7) (k := 4) (As := []) hM rfl imX4_prepare ivX4_prepare ilX4_prepare mwX8_136 xciX4 dX8_sums_4 rfl rfl rfl (Nat.le_of_ble_eq_true rfl) ?_
  refine (b_prepare G l ad F R d σ c hc hok hfo hF).mono (fun x9 σ4 hp => ?_)
  obtain ⟨rfl, q1, q2, q3⟩ := hp
  intro M N S hM
  show xX G l _ (d + 7) _ _ _ _ M N S
  obtain ⟨hJ, hT⟩ := hC0.prep q1 q2 q3
  refine x_aload_n (q := 8) dX8_sums_7 rfl rfl ?_
  refine c_call (q := 11) (k := 0) (As := []) hM rfl imX8_isLoose ivX8_isLoose ilX8_isLoose mwX8_197 xciX8 dX8_sums_8 rfl rfl rfl (Nat.le_of_ble_eq_true rfl) ?_
  refine (b_isLoose G l ad F R (d + 5) σ4 (slC c) hJ.2.2.2.1.2.2.2.2.2.2.2).mono (fun x9 σ9' hp => ?_)
  obtain ⟨rfl, e9⟩ := hp
  intro M N S hM
  rw [e9] at hM; clear e9 σ9'
  show xX G l _ (d + 7) _ _ _ _ M N S
  refine x_if_eq (q := 14) 16 dX8_sums_11 (by decide) rfl (fun hc11 => ?_) (fun hc11 => ?_)
  · have hw : slN (slC c) 4 = 0 := by have h9 := of_decide_eq_false (bI_eq.mp hc11); clear hbd hwh; omega
    refine x_aload_n (q := 17) dX8_sums_16 rfl rfl ?_
    refine c_get (q := 20) (k := 0) (f := 4) hM rfl xclX8 fwX8_40 (by decide) dX8_sums_17 rfl rfl ?_
    refine c_call (q := 23) (k := 5) (As := []) hM rfl imX5_aimAtAllReactions ivX5_aimAtAllReactions ilX5_aimAtAllReactions mwX8_207 xciX5 dX8_sums_20 rfl rfl rfl (Nat.le_of_ble_eq_true rfl) ?_
    refine (b_aimAll G l ad F R (d + 3) σ4 5 (.inl rfl) c hJ.1 hJ.2.2.2.1.2.fz).mono (fun x9 σ20 hp => ?_)
    obtain ⟨rfl, r1, r2⟩ := hp
    intro M N S hM
    show xX G l _ (d + 7) _ _ _ _ M N S
    have J1 := hJ.of_kp r1 (by decide)
    refine xn_iconst (q := 24) 1 dX8_sums_23 rfl (by decide) ?_
    refine x_topi (y := bI true) rfl ?_
    refine x_istore_n (q := 25) (ls' := [(0, _), (1, _)]) [1, 0] dX8_sums_24 rfl (by decide) rfl ?_
    refine xn_iconst (q := 26) 0 dX8_sums_25 rfl (by decide) ?_
    refine x_istore_n (q := 27) (ls' := [(0, _), (1, _), (2, _)]) [1, 2, 0] dX8_sums_26 rfl (by decide) rfl ?_
    refine x_iload_n (q := 28) dX8_sums_27 rfl rfl ?_
    refine x_aload_n (q := 29) dX8_sums_28 rfl rfl ?_
    refine c_get (q := 32) (k := 0) (f := 0) hM rfl xclX8 fwX8_10 (by decide) dX8_sums_29 rfl rfl ?_
    refine c_get (q := 35) (k := 1) (f := 6) hM rfl xclX1 fwX8_201 (by decide) dX8_sums_32 rfl rfl ?_
    refine x_topi (y := nI c.m) (by exact J1.1.2.1) ?_
    refine xn_icmp_ge (q := 38) 118 dX8_sums_35 (by decide) rfl (by decide) (by clear hbd hwh; omega) (fun hc35 => absurd hc35 (by clear hbd hwh; omega)) (fun hc35 => ?_)
    refine xn_iconst (q := 39) 0 dX8_sums_38 rfl (by decide) ?_
    refine x_istore_n (q := 40) (ls' := [(0, _), (1, _), (2, _), (3, _)]) [1, 2, 3, 0] dX8_sums_39 rfl (by decide) rfl ?_
    exact loop hw (5 * c.m) 0 0 σ20 M N S (by clear hbd hwh; omega) (by decide) (by clear hbd hwh; omega) J1 r2 hM
  · refine xn_iconst (q := 15) 0 dX8_sums_14 rfl (by decide) ?_
    exact x_zret rfl (by decide) dX8_sums_15 (c_ret hM ⟨by rw [show cSu c = false by unfold cSu; rw [decide_eq_false (fun z => by have h9 := of_decide_eq_true (bI_ne.mp hc11); clear hbd hwh; omega), Bool.false_and]]; rfl, hJ.ci hT⟩)

end XE7
