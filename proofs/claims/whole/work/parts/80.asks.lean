section XD6
def ndB (c : mCf) (n : Int) : Bool := decide (0 ≤ n ∧ n ≤ (c.m : Int))
def hdB (c : mCf) (n : Int) : Bool := ndB c n && c.Hi n.toNat
def plB (c : mCf) (b p : Int) : Bool := decide (0 ≤ b ∧ b < (c.m : Int) ∧ 0 ≤ p ∧ p ≤ 4)
/-- the class's rows -/
def Rc (σ : cZ) (c : mCf) (r : List (Nat × Nat × Nat)) : Prop := r.length ≤ 8 ∧ (σ 0).1 12 = nI r.length ∧ ∀ i, i < r.length → (σ 11).1 i = nI (r.getD i (0, 0, 0)).1 ∧ (σ 12).1 i = nI (r.getD i (0, 0, 0)).2.1 ∧ (σ 13).1 i = nI (r.getD i (0, 0, 0)).2.2 ∧ okRow c (r.getD i (0, 0, 0))

set_option maxRecDepth 100000 in
set_option maxHeartbeats 4000000 in
theorem b_refusal (G : xG) (l : Launch) (d : Nat) (M : xM) (N S : Nat) (q : Int) (hq1 : -2147483648 ≤ q) (hq2 : q < 2147483648) : xC G l YX8_refusal d [.int (iI q)] M N S (fun r M' N' S' => r = some (.long (iL (refP q))) ∧ M' = M ∧ N' = N ∧ S' = S) := by
  refine xC.of (ls := [(0, .int (iI q))]) (by decide) (Nat.le_of_ble_eq_true rfl) rfl ?_

  refine x_iload_n (q := 1) dX8_refusal_0 rfl rfl ?_
  refine x_iconst (q := 2) (iI (-1)) dX8_refusal_1 rfl (by decide) ?_
  refine xi_icmp_ne (q := 5) 11 dX8_refusal_2 (by decide) rfl rfl rfl (by omega) (by omega) (by omega) (by omega) (fun hc2 => ?_) (fun hc2 => ?_)
  · refine x_ldc2 (q := 14) (-1) dX8_refusal_11 rfl cwX8_82 ?_
    refine x_topl (y := iL (-1)) (by decide) ?_
    exact x_lret rfl dX8_refusal_14 ⟨by unfold refP; rw [if_neg (by omega)], rfl, rfl, rfl⟩
  · refine x_ldc2 (q := 8) (-2) dX8_refusal_5 rfl cwX8_254 ?_
    refine x_topl (y := iL (-2)) (by decide) ?_
    refine x_goto 14 dX8_refusal_8 (by decide) ?_
    exact x_lret rfl dX8_refusal_14 ⟨by unfold refP; rw [if_pos (by omega)], rfl, rfl, rfl⟩

set_option maxRecDepth 100000 in
set_option maxHeartbeats 4000000 in
theorem b_isNode (G : xG) (l : Launch) (ad : Nat → Nat) (F : xM) (R : Nat × Nat) (d : Nat) (σ : cZ) (c : mCf) (hc : Bm σ 1 c) (n : Int) (hn1 : -2147483648 ≤ n) (hn2 : n < 2147483648) : cC G l ad F R YX8_isNode d [.ref (ad 0), .int (iI n)] σ (fun r σ' => r = some (.int (bI (ndB c n))) ∧ σ' = σ) := by
  have h0 := hc.1
  refine cC.of (ls := [(0, .ref (ad 0)), (1, .int (iI n))]) (by decide) (Nat.le_of_ble_eq_true rfl) rfl fun M N S hM => ?_

  refine x_iload_n (q := 1) dX8_isNode_0 rfl rfl ?_
  refine xi_if_lt (q := 4) 19 dX8_isNode_1 (by decide) rfl rfl (by omega) (by omega) (fun hc1 => ?_) (fun hc1 => ?_)
  · refine xn_iconst (q := 20) 0 dX8_isNode_19 rfl (by decide) ?_
    exact x_zret rfl (by decide) dX8_isNode_20 (c_ret hM ⟨by unfold ndB; rw [decide_eq_false (by omega)]; rfl, rfl⟩)
  · refine x_iload_n (q := 5) dX8_isNode_4 rfl rfl ?_
    refine x_aload_n (q := 6) dX8_isNode_5 rfl rfl ?_
    refine c_get (q := 9) (k := 0) (f := 0) hM rfl xclX8 fwX8_10 (by decide) dX8_isNode_6 rfl rfl ?_
    refine c_get (q := 12) (k := 1) (f := 6) hM rfl xclX1 fwX8_201 (by decide) dX8_isNode_9 rfl rfl ?_
    refine x_topi (y := nI c.m) (by exact hc.2.1) ?_
    refine xi_icmp_gt (q := 15) 19 dX8_isNode_12 (by decide) rfl rfl (nI_i _) (by omega) (by omega) (by omega) (by omega) (fun hc12 => ?_) (fun hc12 => ?_)
    · refine xn_iconst (q := 20) 0 dX8_isNode_19 rfl (by decide) ?_
      exact x_zret rfl (by decide) dX8_isNode_20 (c_ret hM ⟨by unfold ndB; rw [decide_eq_false (by omega)]; rfl, rfl⟩)
    · refine xn_iconst (q := 16) 1 dX8_isNode_15 rfl (by decide) ?_
      refine x_goto 20 dX8_isNode_16 (by decide) ?_
      exact x_zret rfl (by decide) dX8_isNode_20 (c_ret hM ⟨by unfold ndB; rw [decide_eq_true (by omega)]; rfl, rfl⟩)

set_option maxRecDepth 100000 in
set_option maxHeartbeats 4000000 in
theorem b_isPlace (G : xG) (l : Launch) (ad : Nat → Nat) (F : xM) (R : Nat × Nat) (d : Nat) (σ : cZ) (c : mCf) (hc : Bm σ 1 c) (b p : Int) (hb1 : -2147483648 ≤ b) (hb2 : b < 2147483648) (hp1 : -2147483648 ≤ p) (hp2 : p < 2147483648) : cC G l ad F R YX8_isPlace d [.ref (ad 0), .int (iI b), .int (iI p)] σ (fun r σ' => r = some (.int (bI (plB c b p))) ∧ σ' = σ) := by
  have h0 := hc.1
  refine cC.of (ls := [(0, .ref (ad 0)), (1, .int (iI b)), (2, .int (iI p))]) (by decide) (Nat.le_of_ble_eq_true rfl) rfl fun M N S hM => ?_

  refine x_iload_n (q := 1) dX8_isPlace_0 rfl rfl ?_
  refine xi_if_lt (q := 4) 28 dX8_isPlace_1 (by decide) rfl rfl (by omega) (by omega) (fun hc1 => ?_) (fun hc1 => ?_)
  · refine xn_iconst (q := 29) 0 dX8_isPlace_28 rfl (by decide) ?_
    exact x_zret rfl (by decide) dX8_isPlace_29 (c_ret hM ⟨by unfold plB; rw [decide_eq_false (by omega)]; rfl, rfl⟩)
  · refine x_iload_n (q := 5) dX8_isPlace_4 rfl rfl ?_
    refine x_aload_n (q := 6) dX8_isPlace_5 rfl rfl ?_
    refine c_get (q := 9) (k := 0) (f := 0) hM rfl xclX8 fwX8_10 (by decide) dX8_isPlace_6 rfl rfl ?_
    refine c_get (q := 12) (k := 1) (f := 6) hM rfl xclX1 fwX8_201 (by decide) dX8_isPlace_9 rfl rfl ?_
    refine x_topi (y := nI c.m) (by exact hc.2.1) ?_
    refine xi_icmp_ge (q := 15) 28 dX8_isPlace_12 (by decide) rfl rfl (nI_i _) (by omega) (by omega) (by omega) (by omega) (fun hc12 => ?_) (fun hc12 => ?_)
    · refine xn_iconst (q := 29) 0 dX8_isPlace_28 rfl (by decide) ?_
      exact x_zret rfl (by decide) dX8_isPlace_29 (c_ret hM ⟨by unfold plB; rw [decide_eq_false (by omega)]; rfl, rfl⟩)
    · refine x_iload_n (q := 16) dX8_isPlace_15 rfl rfl ?_
      refine xi_if_lt (q := 19) 28 dX8_isPlace_16 (by decide) rfl rfl (by omega) (by omega) (fun hc16 => ?_) (fun hc16 => ?_)
      · refine xn_iconst (q := 29) 0 dX8_isPlace_28 rfl (by decide) ?_
        exact x_zret rfl (by decide) dX8_isPlace_29 (c_ret hM ⟨by unfold plB; rw [decide_eq_false (by omega)]; rfl, rfl⟩)
      · refine x_iload_n (q := 20) dX8_isPlace_19 rfl rfl ?_
        refine xn_iconst (q := 21) 4 dX8_isPlace_20 rfl (by decide) ?_
        refine xi_icmp_gt (q := 24) 28 dX8_isPlace_21 (by decide) rfl rfl (nI_i _) (by omega) (by omega) (by omega) (by omega) (fun hc21 => ?_) (fun hc21 => ?_)
        · refine xn_iconst (q := 29) 0 dX8_isPlace_28 rfl (by decide) ?_
          exact x_zret rfl (by decide) dX8_isPlace_29 (c_ret hM ⟨by unfold plB; rw [decide_eq_false (by omega)]; rfl, rfl⟩)
        · refine xn_iconst (q := 25) 1 dX8_isPlace_24 rfl (by decide) ?_
          refine x_goto 29 dX8_isPlace_25 (by decide) ?_
          exact x_zret rfl (by decide) dX8_isPlace_29 (c_ret hM ⟨by unfold plB; rw [decide_eq_true (by omega)]; rfl, rfl⟩)

set_option maxRecDepth 100000 in
set_option maxHeartbeats 4000000 in
theorem b_isRow (G : xG) (l : Launch) (ad : Nat → Nat) (F : xM) (R : Nat × Nat) (d : Nat) (σ : cZ) (c : mCf) (rs : List (Nat × Nat × Nat)) (hr : Rc σ c rs) (n : Int) (hn1 : -2147483648 ≤ n) (hn2 : n < 2147483648) : cC G l ad F R YX8_isRow d [.ref (ad 0), .int (iI n)] σ (fun r σ' => r = some (.int (bI (decide (0 ≤ n ∧ n < (rs.length : Int))))) ∧ σ' = σ) := by
  have h0 := hr.1
  refine cC.of (ls := [(0, .ref (ad 0)), (1, .int (iI n))]) (by decide) (Nat.le_of_ble_eq_true rfl) rfl fun M N S hM => ?_

  refine x_iload_n (q := 1) dX8_isRow_0 rfl rfl ?_
  refine xi_if_lt (q := 4) 16 dX8_isRow_1 (by decide) rfl rfl (by omega) (by omega) (fun hc1 => ?_) (fun hc1 => ?_)
  · refine xn_iconst (q := 17) 0 dX8_isRow_16 rfl (by decide) ?_
    exact x_zret rfl (by decide) dX8_isRow_17 (c_ret hM ⟨by rw [decide_eq_false (by omega)]; rfl, rfl⟩)
  · refine x_iload_n (q := 5) dX8_isRow_4 rfl rfl ?_
    refine x_aload_n (q := 6) dX8_isRow_5 rfl rfl ?_
    refine c_get (q := 9) (k := 0) (f := 12) hM rfl xclX8 fwX8_78 (by decide) dX8_isRow_6 rfl rfl ?_
    refine x_topi (y := nI rs.length) (by exact hr.2.1) ?_
    refine xi_icmp_ge (q := 12) 16 dX8_isRow_9 (by decide) rfl rfl (nI_i _) (by omega) (by omega) (by omega) (by omega) (fun hc9 => ?_) (fun hc9 => ?_)
    · refine xn_iconst (q := 17) 0 dX8_isRow_16 rfl (by decide) ?_
      exact x_zret rfl (by decide) dX8_isRow_17 (c_ret hM ⟨by rw [decide_eq_false (by omega)]; rfl, rfl⟩)
    · refine xn_iconst (q := 13) 1 dX8_isRow_12 rfl (by decide) ?_
      refine x_goto 17 dX8_isRow_13 (by decide) ?_
      exact x_zret rfl (by decide) dX8_isRow_17 (c_ret hM ⟨by rw [decide_eq_true (by omega)]; rfl, rfl⟩)

set_option maxRecDepth 100000 in
set_option maxHeartbeats 4000000 in
theorem b_isHeld (G : xG) (l : Launch) (ad : Nat → Nat) (F : xM) (R : Nat × Nat) (d : Nat) (σ : cZ) (c : mCf) (hc : Bm σ 1 c) (n : Int) (hn1 : -2147483648 ≤ n) (hn2 : n < 2147483648) : cC G l ad F R YX8_isHeld (d + 1) [.ref (ad 0), .int (iI n)] σ (fun r σ' => r = some (.int (bI (hdB c n))) ∧ σ' = σ) := by
  have h0 := hc.1
  refine cC.of (ls := [(0, .ref (ad 0)), (1, .int (iI n))]) (by decide) (Nat.le_of_ble_eq_true rfl) rfl fun M N S hM => ?_

  refine x_aload_n (q := 1) dX8_isHeld_0 rfl rfl ?_
  refine x_iload_n (q := 2) dX8_isHeld_1 rfl rfl ?_
  refine c_call (q := 5) (k := 0) (As := [_]) hM rfl imX8_isNode ivX8_isNode ilX8_isNode mwX8_221 xciX8 dX8_isHeld_2 rfl rfl rfl (Nat.le_of_ble_eq_true rfl) ?_
  refine (b_isNode G l ad F R d σ c hc n hn1 hn2).mono (fun x9 σ9' hp => ?_)
  obtain ⟨rfl, e9⟩ := hp
  intro M N S hM
  rw [e9] at hM; clear e9 σ9'
  show xX G l _ (d + 1) _ _ _ _ M N S
  refine x_if_eq (q := 8) 24 dX8_isHeld_5 (by decide) rfl (fun hc5 => ?_) (fun hc5 => ?_)
  · refine xn_iconst (q := 25) 0 dX8_isHeld_24 rfl (by decide) ?_
    exact x_zret rfl (by decide) dX8_isHeld_25 (c_ret hM ⟨by unfold hdB; rw [bI_eq.mp hc5]; rfl, rfl⟩)
  · have hnd := of_decide_eq_true (bI_ne.mp hc5)
    refine x_aload_n (q := 9) dX8_isHeld_8 rfl rfl ?_
    refine c_get (q := 12) (k := 0) (f := 0) hM rfl xclX8 fwX8_10 (by decide) dX8_isHeld_9 rfl rfl ?_
    refine c_get (q := 15) (k := 1) (f := 3) hM rfl xclX1 fwX8_123 (by decide) dX8_isHeld_12 rfl rfl ?_
    refine x_iload_n (q := 16) dX8_isHeld_15 rfl rfl ?_
    refine x_topi (y := nI n.toNat) (iI_nat (by omega)) ?_
    refine c_zald (q := 17) (k := 17) (n := 4) hM rfl (by decide) (by decide) dX8_isHeld_16 rfl (by omega) ?_
    refine x_topi (y := bI (c.Hi n.toNat)) (by exact hc.2.2.2.2.2.1 _ (by omega)) ?_
    refine x_if_eq (q := 20) 24 dX8_isHeld_17 (by decide) rfl (fun hc17 => ?_) (fun hc17 => ?_)
    · refine xn_iconst (q := 25) 0 dX8_isHeld_24 rfl (by decide) ?_
      exact x_zret rfl (by decide) dX8_isHeld_25 (c_ret hM ⟨by unfold hdB; rw [bI_ne.mp hc5, bI_eq.mp hc17]; rfl, rfl⟩)
    · refine xn_iconst (q := 21) 1 dX8_isHeld_20 rfl (by decide) ?_
      refine x_goto 25 dX8_isHeld_21 (by decide) ?_
      exact x_zret rfl (by decide) dX8_isHeld_25 (c_ret hM ⟨by unfold hdB; rw [bI_ne.mp hc5, bI_ne.mp hc17]; rfl, rfl⟩)

set_option maxRecDepth 100000 in
set_option maxHeartbeats 4000000 in
theorem b_isLoose (G : xG) (l : Launch) (ad : Nat → Nat) (F : xM) (R : Nat × Nat) (d : Nat) (σ : cZ) (sl : Nat → Bool) (hs : Slk σ sl) : cC G l ad F R YX8_isLoose (d + 1) [.ref (ad 0)] σ (fun r σ' => r = some (.int (bI (decide (0 < slN sl 4)))) ∧ σ' = σ) := by
  have h4 := slN_le sl 4
  refine cC.of (ls := [(0, .ref (ad 0))]) (by decide) (Nat.le_of_ble_eq_true rfl) rfl fun M N S hM => ?_

  refine x_aload_n (q := 1) dX8_isLoose_0 rfl rfl ?_
  refine c_get (q := 4) (k := 0) (f := 3) hM rfl xclX8 fwX8_31 (by decide) dX8_isLoose_1 rfl rfl ?_
  refine c_call (q := 7) (k := 4) (As := []) hM rfl imX4_looseNodes ivX4_looseNodes ilX4_looseNodes mwX8_139 xciX4 dX8_isLoose_4 rfl rfl rfl (Nat.le_of_ble_eq_true rfl) ?_
  refine (b_looseNodes G l ad F R d σ sl hs).mono (fun x9 σ9' hp => ?_)
  obtain ⟨rfl, e9⟩ := hp
  intro M N S hM
  rw [e9] at hM; clear e9 σ9'
  show xX G l _ (d + 1) _ _ _ _ M N S
  refine xn_if_le (q := 10) 14 dX8_isLoose_7 (by decide) rfl (by omega) (fun hc7 => ?_) (fun hc7 => ?_)
  · refine xn_iconst (q := 15) 0 dX8_isLoose_14 rfl (by decide) ?_
    exact x_zret rfl (by decide) dX8_isLoose_15 (c_ret hM ⟨by rw [decide_eq_false (by omega)]; rfl, rfl⟩)
  · refine xn_iconst (q := 11) 1 dX8_isLoose_10 rfl (by decide) ?_
    refine x_goto 15 dX8_isLoose_11 (by decide) ?_
    exact x_zret rfl (by decide) dX8_isLoose_15 (c_ret hM ⟨by rw [decide_eq_true (by omega)]; rfl, rfl⟩)

set_option maxRecDepth 100000 in
set_option maxHeartbeats 4000000 in
theorem b_changed (G : xG) (l : Launch) (ad : Nat → Nat) (F : xM) (R : Nat × Nat) (d : Nat) (σ : cZ) : cC G l ad F R YX8_changed (d + 1) [.ref (ad 0)] σ (fun r σ' => r = none ∧ kp [0, 4] σ σ' ∧ (σ' 4).1 13 = nI 0 ∧ (σ' 0).1 = (σ 0).1 ∧ (σ' 0).2.1 13 = iL (-1)) := by
  refine cC.of (ls := [(0, .ref (ad 0))]) (by decide) (Nat.le_of_ble_eq_true rfl) rfl fun M N S hM => ?_

  refine x_aload_n (q := 1) dX8_changed_0 rfl rfl ?_
  refine c_get (q := 4) (k := 0) (f := 3) hM rfl xclX8 fwX8_31 (by decide) dX8_changed_1 rfl rfl ?_
  refine c_call (q := 7) (k := 4) (As := []) hM rfl imX4_forget ivX4_forget ilX4_forget mwX8_242 xciX4 dX8_changed_4 rfl rfl rfl (Nat.le_of_ble_eq_true rfl) ?_
  refine (b_forget G l ad F R d σ).mono (fun x9 σ4 hp => ?_)
  obtain ⟨rfl, q1, q2, q3⟩ := hp
  intro M N S hM
  show xX G l _ (d + 1) _ _ _ _ M N S
  refine x_aload_n (q := 8) dX8_changed_7 rfl rfl ?_
  refine x_ldc2 (q := 11) (-1) dX8_changed_8 rfl cwX8_82 ?_
  refine x_topl (y := iL (-1)) (by decide) ?_
  refine c_putl (q := 14) (k := 0) (f := 13) hM rfl rfl xclX8 fwX8_84 (by decide) rfl rfl (Nat.le_of_ble_eq_true rfl) dX8_changed_11 rfl rfl rfl (fun M σ11 a11 e11 b11 hM => ?_)
  exact x_vret rfl dX8_changed_14 (c_ret hM ⟨rfl, (q1.mono (by decide)).trans (a11.mono (by decide)), by rw [a11 4 (by decide)]; exact q2, by rw [b11.1, q1 0 (by decide)], by rw [e11, mu_s]⟩)

end XD6
