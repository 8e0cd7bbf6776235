section XD7

set_option maxRecDepth 100000 in
set_option maxHeartbeats 4000000 in
theorem b_canBeTold (G : xG) (l : Launch) (ad : Nat → Nat) (F : xM) (R : Nat × Nat) (d : Nat) (σ : cZ) (c : mCf) (hc : Bm σ 1 c) (w m p : Int) (hw1 : -2147483648 ≤ w) (hw2 : w < 2147483648) (hm1 : -2147483648 ≤ m) (hm2 : m < 2147483648) (hp1 : -2147483648 ≤ p) (hp2 : p < 2147483648) : cC G l ad F R YX8_canBeTold (d + 2) [.ref (ad 0), .int (iI w), .int (iI m), .int (iI p)] σ (fun r σ' => r = some (.int (bI (rowB c w m p || rowN c w m p))) ∧ σ' = σ) := by
  have rB : ∀ b, (rowB c w m p = b) → b = decide (0 ≤ w ∧ w ≤ 2 ∧ 0 ≤ m ∧ m < (c.m : Int) ∧ 0 ≤ p ∧ p ≤ 4) := fun b h => h.symm
  refine cC.of (ls := [(0, .ref (ad 0)), (1, .int (iI w)), (2, .int (iI m)), (3, .int (iI p))]) (by decide) (Nat.le_of_ble_eq_true rfl) rfl fun M N S hM => ?_

  refine x_iload_n (q := 1) dX8_canBeTold_0 rfl rfl ?_
  refine xn_iconst (q := 2) 3 dX8_canBeTold_1 rfl (by decide) ?_
  refine xi_icmp_ne (q := 5) 23 dX8_canBeTold_2 (by decide) rfl rfl (nI_i _) (by omega) (by omega) (by omega) (by omega) (fun hc2 => ?_) (fun hc2 => ?_)
  · refine x_iload_n (q := 24) dX8_canBeTold_23 rfl rfl ?_
    refine xi_if_lt (q := 27) 45 dX8_canBeTold_24 (by decide) rfl rfl (by omega) (by omega) (fun hc24 => ?_) (fun hc24 => ?_)
    · refine xn_iconst (q := 46) 0 dX8_canBeTold_45 rfl (by decide) ?_
      have hB : rowB c w m p = false := decide_eq_false (by omega)
      have hN : rowN c w m p = false := decide_eq_false (fun h => by omega)
      exact x_zret rfl (by decide) dX8_canBeTold_46 (c_ret hM ⟨by rw [hB, hN]; rfl, rfl⟩)
    · refine x_iload_n (q := 28) dX8_canBeTold_27 rfl rfl ?_
      refine xn_iconst (q := 29) 2 dX8_canBeTold_28 rfl (by decide) ?_
      refine xi_icmp_gt (q := 32) 45 dX8_canBeTold_29 (by decide) rfl rfl (nI_i _) (by omega) (by omega) (by omega) (by omega) (fun hc29 => ?_) (fun hc29 => ?_)
      · refine xn_iconst (q := 46) 0 dX8_canBeTold_45 rfl (by decide) ?_
        have hB : rowB c w m p = false := decide_eq_false (by omega)
        have hN : rowN c w m p = false := decide_eq_false (fun h => by omega)
        exact x_zret rfl (by decide) dX8_canBeTold_46 (c_ret hM ⟨by rw [hB, hN]; rfl, rfl⟩)
      · refine x_aload_n (q := 33) dX8_canBeTold_32 rfl rfl ?_
        refine x_iload_n (q := 34) dX8_canBeTold_33 rfl rfl ?_
        refine x_iload_n (q := 35) dX8_canBeTold_34 rfl rfl ?_
        refine c_call (q := 38) (k := 0) (As := [_, _]) hM rfl imX8_isPlace ivX8_isPlace ilX8_isPlace mwX8_155 xciX8 dX8_canBeTold_35 rfl rfl rfl (Nat.le_of_ble_eq_true rfl) ?_
        refine (b_isPlace G l ad F R (d + 1) σ c hc m p hm1 hm2 hp1 hp2).mono (fun x9 σ9' hp => ?_)
        obtain ⟨rfl, e9⟩ := hp
        intro M N S hM
        rw [e9] at hM; clear e9 σ9'
        show xX G l _ (d + 2) _ _ _ _ M N S
        refine x_if_eq (q := 41) 45 dX8_canBeTold_38 (by decide) rfl (fun hc38 => ?_) (fun hc38 => ?_)
        · refine xn_iconst (q := 46) 0 dX8_canBeTold_45 rfl (by decide) ?_
          have h9 := of_decide_eq_false (bI_eq.mp hc38)
          have hB : rowB c w m p = false := decide_eq_false (by omega)
          have hN : rowN c w m p = false := decide_eq_false (fun h => by omega)
          exact x_zret rfl (by decide) dX8_canBeTold_46 (c_ret hM ⟨by rw [hB, hN]; rfl, rfl⟩)
        · refine xn_iconst (q := 42) 1 dX8_canBeTold_41 rfl (by decide) ?_
          refine x_goto 46 dX8_canBeTold_42 (by decide) ?_
          have h9 := of_decide_eq_true (bI_ne.mp hc38)
          have hB : rowB c w m p = true := decide_eq_true (by omega)
          have hN : rowN c w m p = false := decide_eq_false (fun h => by omega)
          exact x_zret rfl (by decide) dX8_canBeTold_46 (c_ret hM ⟨by rw [hB, hN]; rfl, rfl⟩)
  · refine x_aload_n (q := 6) dX8_canBeTold_5 rfl rfl ?_
    refine x_iload_n (q := 7) dX8_canBeTold_6 rfl rfl ?_
    refine c_call (q := 10) (k := 0) (As := [_]) hM rfl imX8_isHeld ivX8_isHeld ilX8_isHeld mwX8_214 xciX8 dX8_canBeTold_7 rfl rfl rfl (Nat.le_of_ble_eq_true rfl) ?_
    refine (b_isHeld G l ad F R d σ c hc m hm1 hm2).mono (fun x9 σ9' hp => ?_)
    obtain ⟨rfl, e9⟩ := hp
    intro M N S hM
    rw [e9] at hM; clear e9 σ9'
    show xX G l _ (d + 2) _ _ _ _ M N S
    refine x_if_eq (q := 13) 21 dX8_canBeTold_10 (by decide) rfl (fun hc10 => ?_) (fun hc10 => ?_)
    · refine xn_iconst (q := 22) 0 dX8_canBeTold_21 rfl (by decide) ?_
      have hB : rowB c w m p = false := decide_eq_false (by omega)
      have hN : rowN c w m p = false := decide_eq_false (fun h => by have h9 := bI_eq.mp hc10; unfold hdB ndB at h9; rw [decide_eq_true ⟨h.2.1, h.2.2.1⟩, h.2.2.2.2] at h9; exact absurd h9 (by decide))
      exact x_zret rfl (by decide) dX8_canBeTold_22 (c_ret hM ⟨by rw [hB, hN]; rfl, rfl⟩)
    · refine x_iload_n (q := 14) dX8_canBeTold_13 rfl rfl ?_
      refine xi_if_ne (q := 17) 21 dX8_canBeTold_14 (by decide) rfl rfl (by omega) (by omega) (fun hc14 => ?_) (fun hc14 => ?_)
      · refine xn_iconst (q := 22) 0 dX8_canBeTold_21 rfl (by decide) ?_
        have hB : rowB c w m p = false := decide_eq_false (by omega)
        have hN : rowN c w m p = false := decide_eq_false (fun h => by omega)
        exact x_zret rfl (by decide) dX8_canBeTold_22 (c_ret hM ⟨by rw [hB, hN]; rfl, rfl⟩)
      · refine xn_iconst (q := 18) 1 dX8_canBeTold_17 rfl (by decide) ?_
        refine x_goto 22 dX8_canBeTold_18 (by decide) ?_
        have hB : rowB c w m p = false := decide_eq_false (by omega)
        have h9 := bI_ne.mp hc10
        unfold hdB ndB at h9
        rw [Bool.and_eq_true, decide_eq_true_eq] at h9
        have hN : rowN c w m p = true := decide_eq_true ⟨by omega, h9.1.1, h9.1.2, by omega, h9.2⟩
        exact x_zret rfl (by decide) dX8_canBeTold_22 (c_ret hM ⟨by rw [hB, hN]; rfl, rfl⟩)

set_option maxRecDepth 100000 in
set_option maxHeartbeats 4000000 in
theorem b_unit (G : xG) (l : Launch) (ad : Nat → Nat) (F : xM) (R : Nat × Nat) (d : Nat) (σ : cZ) (t : List Nat) (ht : Tx σ t) (u : Int) (hu1 : -2147483648 ≤ u) (hu2 : u < 2147483648) : cC G l ad F R YX8_unit (d + 1) [.ref (ad 0), .int (iI u)] σ (fun r σ' => r = some (.int (bI (spUnit t u).1)) ∧ kp [3, 26] σ σ' ∧ Tx σ' (spUnit t u).2) := by
  have hl := ht.1
  refine cC.of (ls := [(0, .ref (ad 0)), (1, .int (iI u))]) (by decide) (Nat.le_of_ble_eq_true rfl) rfl fun M N S hM => ?_

  refine x_aload_n (q := 1) dX8_unit_0 rfl rfl ?_
  refine c_get (q := 4) (k := 0) (f := 2) hM rfl xclX8 fwX8_22 (by decide) dX8_unit_1 rfl rfl ?_
  refine x_iload_n (q := 5) dX8_unit_4 rfl rfl ?_
  refine c_call (q := 8) (k := 3) (As := [_]) hM rfl imX7_collect ivX7_collect ilX7_collect mwX8_88 xciX7 dX8_unit_5 rfl rfl rfl (Nat.le_of_ble_eq_true rfl) ?_
  refine (b_collect G l ad F R d σ t ht u hu1 hu2).mono (fun x9 σ5 hp => ?_)
  obtain ⟨q1, q2⟩ := hp
  have q4 : x9 = some (.int (bI (spUnit t u).1)) ∧ Tx σ5 (spUnit t u).2 := by
    unfold spUnit
    by_cases e : 32 ≤ u ∧ u ≤ 126 ∧ t.length < 50
    · rw [if_pos e] at q2; rw [if_neg (by omega)]; exact q2
    · rw [if_neg e] at q2; rw [if_pos (by omega)]; exact ⟨q2.1, by rw [q2.2]; exact ht⟩
  obtain ⟨rfl, q3⟩ := q4
  intro M N S hM
  show xX G l _ (d + 1) _ _ _ _ M N S
  exact x_zret rfl (bI_n _) dX8_unit_8 (c_ret hM ⟨rfl, q1, q3⟩)

theorem Rc.of_kp {ks : List Nat} {σ σ' : cZ} {c : mCf} {r : List (Nat × Nat × Nat)} (h : Rc σ c r) (k : kp ks σ σ') (hn : ∀ j ∈ ks, j ≠ 0 ∧ j ≠ 11 ∧ j ≠ 12 ∧ j ≠ 13) : Rc σ' c r := by
  have n : ∀ j, (j = 0 ∨ j = 11 ∨ j = 12 ∨ j = 13) → j ∉ ks := fun j hj hm => by have := hn j hm; omega
  unfold Rc at *
  rw [k 0 (n 0 (by omega)), k 11 (n 11 (by omega)), k 12 (n 12 (by omega)), k 13 (n 13 (by omega))]
  exact h

set_option maxRecDepth 100000 in
set_option maxHeartbeats 4000000 in
theorem b_row (G : xG) (l : Launch) (ad : Nat → Nat) (F : xM) (R : Nat × Nat) (d : Nat) (σ : cZ) (c : mCf) (hc : Bm σ 1 c) (t : List Nat) (rs : List (Nat × Nat × Nat)) (hr : Rc σ c rs) (w m p : Int) (hw1 : -2147483648 ≤ w) (hw2 : w < 2147483648) (hm1 : -2147483648 ≤ m) (hm2 : m < 2147483648) (hp1 : -2147483648 ≤ p) (hp2 : p < 2147483648) : cC G l ad F R YX8_row (d + 3) [.ref (ad 0), .int (iI w), .int (iI m), .int (iI p)] σ (fun r σ' => r = some (.int (iI (spRow (c, t, rs) w m p).1)) ∧ kp [0, 11, 12, 13] σ σ' ∧ Rc σ' c (spRow (c, t, rs) w m p).2.2.2 ∧ (σ' 0).2 = (σ 0).2) := by
  obtain ⟨r1, r2, r3⟩ := hr
  have hr' : Rc σ c rs := ⟨r1, r2, r3⟩
  refine cC.of (ls := [(0, .ref (ad 0)), (1, .int (iI w)), (2, .int (iI m)), (3, .int (iI p))]) (by decide) (Nat.le_of_ble_eq_true rfl) rfl fun M N S hM => ?_

  refine x_aload_n (q := 1) dX8_row_0 rfl rfl ?_
  refine c_get (q := 4) (k := 0) (f := 12) hM rfl xclX8 fwX8_78 (by decide) dX8_row_1 rfl rfl ?_
  refine x_topi (y := nI rs.length) (by exact r2) ?_
  refine xn_bipush (q := 6) 8 dX8_row_4 rfl (by decide) ?_
  refine xn_icmp_ge (q := 9) 19 dX8_row_6 (by decide) rfl (by omega) (by omega) (fun hc6 => ?_) (fun hc6 => ?_)
  · refine x_iconst (q := 20) (-1) dX8_row_19 rfl (by decide) ?_
    have hs : spRow (c, t, rs) w m p = (-1, (c, t, rs)) := if_pos (.inr (by show rs.length = 8; omega))
    exact x_iret rfl dX8_row_20 (c_ret hM ⟨by rw [hs]; rfl, kp.rfl', by rw [hs]; exact hr', rfl⟩)
  · refine x_aload_n (q := 10) dX8_row_9 rfl rfl ?_
    refine x_iload_n (q := 11) dX8_row_10 rfl rfl ?_
    refine x_iload_n (q := 12) dX8_row_11 rfl rfl ?_
    refine x_iload_n (q := 13) dX8_row_12 rfl rfl ?_
    refine c_call (q := 16) (k := 0) (As := [_, _, _]) hM rfl imX8_canBeTold ivX8_canBeTold ilX8_canBeTold mwX8_147 xciX8 dX8_row_13 rfl rfl rfl (Nat.le_of_ble_eq_true rfl) ?_
    refine (b_canBeTold G l ad F R d σ c hc w m p hw1 hw2 hm1 hm2 hp1 hp2).mono (fun x9 σ9' hp => ?_)
    obtain ⟨rfl, e9⟩ := hp
    intro M N S hM
    rw [e9] at hM; clear e9 σ9'
    show xX G l _ (d + 3) _ _ _ _ M N S
    refine x_if_ne (q := 19) 21 dX8_row_16 (by decide) rfl (fun hc16 => ?_) (fun hc16 => ?_)
    · have hok : rowB c w m p = true ∨ rowN c w m p = true := by have h9 := bI_ne.mp hc16; rw [Bool.or_eq_true] at h9; exact h9
      have hw0 : 0 ≤ w ∧ 0 ≤ m ∧ 0 ≤ p := by
        rcases hok with h | h
        · have h8 := of_decide_eq_true h; omega
        · have h8 := of_decide_eq_true h; omega
      refine x_aload_n (q := 22) dX8_row_21 rfl rfl ?_
      refine c_get (q := 25) (k := 0) (f := 9) hM rfl xclX8 fwX8_68 (by decide) dX8_row_22 rfl rfl ?_
      refine x_aload_n (q := 26) dX8_row_25 rfl rfl ?_
      refine c_get (q := 29) (k := 0) (f := 12) hM rfl xclX8 fwX8_78 (by decide) dX8_row_26 rfl rfl ?_
      refine x_topi (y := nI rs.length) (by exact r2) ?_
      refine x_iload_n (q := 30) dX8_row_29 rfl rfl ?_
      refine x_topi (y := nI w.toNat) (iI_nat hw0.1) ?_
      refine c_iast (q := 31) (k := 11) (n := 8) hM (by decide) (fun _ => rfl) (by decide) dX8_row_30 rfl (by omega) (fun M σ30 a30 e30 b30 hM => ?_)
      refine x_aload_n (q := 32) dX8_row_31 rfl rfl ?_
      refine c_get (q := 35) (k := 0) (f := 10) hM rfl xclX8 fwX8_72 (by decide) dX8_row_32 rfl rfl ?_
      refine x_aload_n (q := 36) dX8_row_35 rfl rfl ?_
      refine c_get (q := 39) (k := 0) (f := 12) hM rfl xclX8 fwX8_78 (by decide) dX8_row_36 rfl rfl ?_
      refine x_topi (y := nI rs.length) (by rw [a30 0 (by decide)]; exact r2) ?_
      refine x_iload_n (q := 40) dX8_row_39 rfl rfl ?_
      refine x_topi (y := nI m.toNat) (iI_nat hw0.2.1) ?_
      refine c_iast (q := 41) (k := 12) (n := 8) hM (by decide) (fun _ => rfl) (by decide) dX8_row_40 rfl (by omega) (fun M σ40 a40 e40 b40 hM => ?_)
      refine x_aload_n (q := 42) dX8_row_41 rfl rfl ?_
      refine c_get (q := 45) (k := 0) (f := 11) hM rfl xclX8 fwX8_75 (by decide) dX8_row_42 rfl rfl ?_
      refine x_aload_n (q := 46) dX8_row_45 rfl rfl ?_
      refine c_get (q := 49) (k := 0) (f := 12) hM rfl xclX8 fwX8_78 (by decide) dX8_row_46 rfl rfl ?_
      refine x_topi (y := nI rs.length) (by rw [a40 0 (by decide), a30 0 (by decide)]; exact r2) ?_
      refine x_iload_n (q := 50) dX8_row_49 rfl rfl ?_
      refine x_topi (y := nI p.toNat) (iI_nat hw0.2.2) ?_
      refine c_iast (q := 51) (k := 13) (n := 8) hM (by decide) (fun _ => rfl) (by decide) dX8_row_50 rfl (by omega) (fun M σ50 a50 e50 b50 hM => ?_)
      refine x_aload_n (q := 52) dX8_row_51 rfl rfl ?_
      refine x_dup (q := 53) dX8_row_52 rfl rfl ?_
      refine c_get (q := 56) (k := 0) (f := 12) hM rfl xclX8 fwX8_78 (by decide) dX8_row_53 rfl rfl ?_
      refine x_topi (y := nI rs.length) (by rw [a50 0 (by decide), a40 0 (by decide), a30 0 (by decide)]; exact r2) ?_
      refine xn_iconst (q := 57) 1 dX8_row_56 rfl (by decide) ?_
      refine xn_iadd (q := 58) dX8_row_57 rfl ?_
      refine c_puti (q := 61) (k := 0) (f := 12) hM rfl rfl xclX8 fwX8_78 (by decide) rfl rfl (Nat.le_of_ble_eq_true rfl) dX8_row_58 rfl rfl rfl (fun M σ58 a58 e58 b58 hM => ?_)
      refine x_aload_n (q := 62) dX8_row_61 rfl rfl ?_
      refine c_get (q := 65) (k := 0) (f := 12) hM rfl xclX8 fwX8_78 (by decide) dX8_row_62 rfl rfl ?_
      refine x_topi (y := nI (rs.length + 1)) (by rw [e58, mu_s]) ?_
      refine xn_iconst (q := 66) 1 dX8_row_65 rfl (by decide) ?_
      refine xn_isub (q := 67) dX8_row_66 rfl (by omega) ?_
      have hs : spRow (c, t, rs) w m p = ((rs.length : Int), (c, t, rs ++ [(w.toNat, m.toNat, p.toNat)])) := if_neg (fun z => by
        rcases z with z | z
        · rcases hok with h | h
          · rw [h] at z; exact absurd z.1 (by decide)
          · rw [h] at z; exact absurd z.2 (by decide)
        · have : rs.length = 8 := z
          omega)
      refine x_iret rfl dX8_row_67 (c_ret hM ⟨by rw [hs, nI_i]; congr 3, (a30.mono (by decide)).trans ((a40.mono (by decide)).trans ((a50.mono (by decide)).trans (a58.mono (by decide)))), ?_, by rw [b58, a50 0 (by decide), a40 0 (by decide), a30 0 (by decide)]⟩)
      rw [hs]
      have hlen : (rs ++ [(w.toNat, m.toNat, p.toNat)]).length = rs.length + 1 := by rw [List.length_append]; rfl
      refine ⟨by show (rs ++ _).length ≤ 8; rw [hlen]; omega, by show _ = nI (rs ++ _).length; rw [hlen, e58, mu_s], fun i hi => ?_⟩
      have hi' : i < rs.length + 1 := by rw [← hlen]; exact hi
      rw [a58 11 (by decide), a50 11 (by decide), a40 11 (by decide), e30, a58 12 (by decide), a50 12 (by decide), e40, a30 12 (by decide), a58 13 (by decide), e50, a40 13 (by decide), a30 13 (by decide)]
      show _ = nI ((rs ++ [(w.toNat, m.toNat, p.toNat)]).getD i (0, 0, 0)).1 ∧ _ = nI ((rs ++ [(w.toNat, m.toNat, p.toNat)]).getD i (0, 0, 0)).2.1 ∧ _ = nI ((rs ++ [(w.toNat, m.toNat, p.toNat)]).getD i (0, 0, 0)).2.2 ∧ okRow c ((rs ++ [(w.toNat, m.toNat, p.toNat)]).getD i (0, 0, 0))
      by_cases ei : i = rs.length
      · rw [ei, getD_r]; simp only [upd, if_true]
        refine ⟨trivial, trivial, trivial, ?_⟩
        rcases hok with h | h
        · have h8 := of_decide_eq_true h; left; show w.toNat ≤ 2 ∧ m.toNat < c.m ∧ p.toNat ≤ 4; omega
        · have h8 := of_decide_eq_true h; right; show w.toNat = 3 ∧ m.toNat ≤ c.m ∧ p.toNat = 0; omega
      · rw [getD_l (show i < rs.length by omega)]; simp only [upd, if_neg ei]; exact r3 i (by omega)
    · refine x_iconst (q := 20) (-1) dX8_row_19 rfl (by decide) ?_
      have h9 := bI_eq.mp hc16
      rw [Bool.or_eq_false_iff] at h9
      have hs : spRow (c, t, rs) w m p = (-1, (c, t, rs)) := if_pos (.inl h9)
      exact x_iret rfl dX8_row_20 (c_ret hM ⟨by rw [hs]; rfl, kp.rfl', by rw [hs]; exact hr', rfl⟩)

set_option maxRecDepth 100000 in
set_option maxHeartbeats 4000000 in
theorem b_count (G : xG) (l : Launch) (ad : Nat → Nat) (F : xM) (R : Nat × Nat) (d : Nat) (σ : cZ) (c : mCf) (hc : Bm σ 1 c) (hok : okL c) (t : List Nat) (rs : List (Nat × Nat × Nat)) (hr : Rc σ c rs) (w : Int) (hw1 : -2147483648 ≤ w) (hw2 : w < 2147483648) : cC G l ad F R YX8_count (d + 1) [.ref (ad 0), .int (iI w)] σ (fun r σ' => r = some (.int (iI (spCount (c, t, rs) w))) ∧ σ' = σ) := by
  have hm := hc.1
  have hwt : (iI w).toInt = w := iI_t hw1 hw2
  refine cC.of (ls := [(0, .ref (ad 0)), (1, .int (iI w))]) (by decide) (Nat.le_of_ble_eq_true rfl) rfl fun M N S hM => ?_
  refine x_iload_n (q := 1) dX8_count_0 rfl rfl ?_
  by_cases hin : 0 ≤ w ∧ w ≤ 4
  · rcases (by omega : w = 0 ∨ w = 1 ∨ w = 2 ∨ w = 3 ∨ w = 4) with rfl | rfl | rfl | rfl | rfl

    · refine x_tableIn (35) 36 dX8_count_1 (by decide) (by decide) (by decide) (by decide) ?_
      refine x_aload_n (q := 37) dX8_count_36 rfl rfl ?_
      refine c_get (q := 40) (k := 0) (f := 0) hM rfl xclX8 fwX8_10 (by decide) dX8_count_37 rfl rfl ?_
      refine c_get (q := 43) (k := 1) (f := 6) hM rfl xclX1 fwX8_201 (by decide) dX8_count_40 rfl rfl ?_
      refine x_topi (y := nI c.m) (by exact hc.2.1) ?_
      exact x_iret rfl dX8_count_43 (c_ret hM ⟨by rw [nI_i]; rfl, rfl⟩)

    · refine x_tableIn (43) 44 dX8_count_1 (by decide) (by decide) (by decide) (by decide) ?_
      refine x_aload_n (q := 45) dX8_count_44 rfl rfl ?_
      refine c_get (q := 48) (k := 0) (f := 12) hM rfl xclX8 fwX8_78 (by decide) dX8_count_45 rfl rfl ?_
      refine x_topi (y := nI rs.length) (by exact hr.2.1) ?_
      exact x_iret rfl dX8_count_48 (c_ret hM ⟨by rw [nI_i]; rfl, rfl⟩)

    · refine x_tableIn (48) 49 dX8_count_1 (by decide) (by decide) (by decide) (by decide) ?_
      refine x_aload_n (q := 50) dX8_count_49 rfl rfl ?_
      refine c_get (q := 53) (k := 0) (f := 0) hM rfl xclX8 fwX8_10 (by decide) dX8_count_50 rfl rfl ?_
      refine c_call (q := 56) (k := 1) (As := []) hM rfl imX1_hinges ivX1_hinges ilX1_hinges mwX8_232 xciX1 dX8_count_53 rfl rfl rfl (Nat.le_of_ble_eq_true rfl) ?_
      refine (b_hinges G l ad F R d σ c hc).mono (fun x9 σ9' hp => ?_)
      obtain ⟨rfl, e9⟩ := hp
      intro M N S hM
      rw [e9] at hM; clear e9 σ9'
      show xX G l _ (d + 1) _ _ _ _ M N S
      exact x_iret rfl dX8_count_56 (c_ret hM ⟨by rw [hgE_hgN, nI_i]; rfl, rfl⟩)

    · refine x_tableIn (56) 57 dX8_count_1 (by decide) (by decide) (by decide) (by decide) ?_
      refine x_aload_n (q := 58) dX8_count_57 rfl rfl ?_
      refine c_get (q := 61) (k := 0) (f := 0) hM rfl xclX8 fwX8_10 (by decide) dX8_count_58 rfl rfl ?_
      refine c_call (q := 64) (k := 1) (As := []) hM rfl imX1_heldNodes ivX1_heldNodes ilX1_heldNodes mwX8_235 xciX1 dX8_count_61 rfl rfl rfl (Nat.le_of_ble_eq_true rfl) ?_
      refine (b_heldNodes G l ad F R d σ c hc).mono (fun x9 σ9' hp => ?_)
      obtain ⟨rfl, e9⟩ := hp
      intro M N S hM
      rw [e9] at hM; clear e9 σ9'
      show xX G l _ (d + 1) _ _ _ _ M N S
      exact x_iret rfl dX8_count_64 (c_ret hM ⟨by rw [nI_i]; rfl, rfl⟩)

    · refine x_tableIn (64) 65 dX8_count_1 (by decide) (by decide) (by decide) (by decide) ?_
      refine x_aload_n (q := 66) dX8_count_65 rfl rfl ?_
      refine c_get (q := 69) (k := 0) (f := 0) hM rfl xclX8 fwX8_10 (by decide) dX8_count_66 rfl rfl ?_
      refine c_call (q := 72) (k := 1) (As := []) hM rfl imX1_wholeLength ivX1_wholeLength ilX1_wholeLength mwX8_238 xciX1 dX8_count_69 rfl rfl rfl (Nat.le_of_ble_eq_true rfl) ?_
      refine (b_wholeLength G l ad F R d σ c hc).mono (fun x9 σ9' hp => ?_)
      obtain ⟨rfl, e9⟩ := hp
      intro M N S hM
      rw [e9] at hM; clear e9 σ9'
      show xX G l _ (d + 1) _ _ _ _ M N S
      refine xn_l2i (q := 73) dX8_count_72 rfl ?_
      exact x_iret rfl dX8_count_73 (c_ret hM ⟨by rw [nI_i]; rfl, rfl⟩)

  · refine x_tableOut 74 dX8_count_1 (by rw [hwt]; omega) (by decide) ?_
    refine x_iconst (q := 75) (iI (-1)) dX8_count_74 rfl (by decide) ?_
    exact x_iret rfl dX8_count_75 (c_ret hM ⟨by unfold spCount; rw [if_neg (by omega), if_neg (by omega), if_neg (by omega), if_neg (by omega), if_neg (by omega)], rfl⟩)

end XD7
