section XD9

set_option maxRecDepth 100000 in
set_option maxHeartbeats 4000000 in
theorem b_support (G : xG) (l : Launch) (ad : Nat → Nat) (F : xM) (R : Nat × Nat) (d : Nat) (σ : cZ) (c : mCf) (hc : Bm σ 1 c) (hse : ∀ i, i < 4 → c.Hi i = false → c.Se i = 0) (k : Nat) (hk : k ≤ c.m) (a : Int) (ha1 : -2147483648 ≤ a) (ha2 : a < 2147483648) (on : Bool) : cC G l ad F R YX8_support (d + 2) [.ref (ad 0), .int (nI k), .int (iI a), .int (bI on)] σ (fun r σ' => if a = 0 then r = some (.int (bI (c.Hi k))) ∧ kp [0, 4, 17, 18, 19] σ σ' ∧ Bm σ' 1 (cHi c k on) ∧ Fgt σ σ' else if a = 1 then r = some (.int (bI (c.Tu k))) ∧ kp [0, 4, 17, 18, 19] σ σ' ∧ Bm σ' 1 (cTu c k on) ∧ Fgt σ σ' else r = some (.int (bI false)) ∧ σ' = σ) := by
  have hm := hc.1
  have hk4 : k < 4 := by omega
  have hc' := hc
  obtain ⟨g0, g1, g2, g3, g4, g5, g6, g7⟩ := hc
  have fin : ∀ (b9 : Bool) (c' : mCf) (σ1 : cZ) (M : xM) (N S : Nat) (ls : List (Nat × Value)), xget ls 0 = some (.ref (ad 0)) → xget ls 5 = some (.int (bI b9)) → kp [17, 18, 19] σ σ1 → Bm σ1 1 c' → (∀ σ', kp [0, 4, 17, 18, 19] σ σ' → Bm σ' 1 c' → Fgt σ σ' → (if a = 0 then (some (.int (bI b9)) : Option Value) = some (.int (bI (c.Hi k))) ∧ kp [0, 4, 17, 18, 19] σ σ' ∧ Bm σ' 1 (cHi c k on) ∧ Fgt σ σ' else if a = 1 then (some (.int (bI b9)) : Option Value) = some (.int (bI (c.Tu k))) ∧ kp [0, 4, 17, 18, 19] σ σ' ∧ Bm σ' 1 (cTu c k on) ∧ Fgt σ σ' else (some (.int (bI b9)) : Option Value) = some (.int (bI false)) ∧ σ' = σ)) → cA G ad F R σ1 M N S → xX G l YX8_support (d + 2) (cQ G ad F R (fun r σ' => if a = 0 then r = some (.int (bI (c.Hi k))) ∧ kp [0, 4, 17, 18, 19] σ σ' ∧ Bm σ' 1 (cHi c k on) ∧ Fgt σ σ' else if a = 1 then r = some (.int (bI (c.Tu k))) ∧ kp [0, 4, 17, 18, 19] σ σ' ∧ Bm σ' 1 (cTu c k on) ∧ Fgt σ σ' else r = some (.int (bI false)) ∧ σ' = σ)) 72 ls [] M N S := by
    intro b9 c' σ1 M N S ls l0 l5 k1 k2 hQ hM
    refine x_aload_n (q := 73) dX8_support_72 rfl l0 ?_
    refine c_call (q := 76) (k := 0) (As := []) hM rfl imX8_changed ivX8_changed ilX8_changed mwX8_102 xciX8 dX8_support_73 rfl rfl rfl (Nat.le_of_ble_eq_true rfl) ?_
    refine (b_changed G l ad F R d σ1).mono (fun x9 σ5 hp => ?_)
    obtain ⟨rfl, q1, q2, q3, q4⟩ := hp
    intro M N S hM
    show xX G l _ (d + 2) _ _ _ _ M N S
    refine x_iload (q := 78) dX8_support_76 rfl l5 ?_
    exact x_zret rfl (bI_n _) dX8_support_78 (c_ret hM (hQ σ5 ((k1.mono (by decide)).trans (q1.mono (by decide))) (k2.kp q1 (by decide)) ⟨q2, by rw [q3, k1 0 (by decide)], q4⟩))

  have s0 : ∀ (M : xM) (N S : Nat), a = 0 → cA G ad F R σ M N S → xX G l YX8_support (d + 2) (cQ G ad F R (fun r σ' => if a = 0 then r = some (.int (bI (c.Hi k))) ∧ kp [0, 4, 17, 18, 19] σ σ' ∧ Bm σ' 1 (cHi c k on) ∧ Fgt σ σ' else if a = 1 then r = some (.int (bI (c.Tu k))) ∧ kp [0, 4, 17, 18, 19] σ σ' ∧ Bm σ' 1 (cTu c k on) ∧ Fgt σ σ' else r = some (.int (bI false)) ∧ σ' = σ)) 39 [(0, .ref (ad 0)), (1, .int (nI k)), (2, .int (iI a)), (3, .int (bI on)), (4, .ref (ad 17))] [] M N S := by
    intro M N S ha hM

    refine x_aload (q := 41) dX8_support_39 rfl rfl ?_
    refine x_iload_n (q := 42) dX8_support_41 rfl rfl ?_
    refine c_zald (q := 43) (k := 17) (n := 4) hM rfl (by decide) (by decide) dX8_support_42 rfl hk4 ?_
    refine x_topi (y := bI (c.Hi k)) (by exact g5 k hk4) ?_
    refine x_istore (q := 45) (ls' := [(0, _), (1, _), (2, _), (3, _), (4, _), (5, _)]) [1, 2, 3, 4, 5, 0] dX8_support_43 rfl (by decide) rfl ?_
    refine x_aload (q := 47) dX8_support_45 rfl rfl ?_
    refine x_iload_n (q := 48) dX8_support_47 rfl rfl ?_
    refine x_iload_n (q := 49) dX8_support_48 rfl rfl ?_
    refine c_zast (q := 50) (k := 17) (n := 4) hM (by decide) (fun _ => rfl) (by decide) dX8_support_49 rfl hk4 (bI_v _) (fun M σ49 a49 e49 b49 hM => ?_)
    refine x_aload_n (q := 51) dX8_support_50 rfl rfl ?_
    refine c_get (q := 54) (k := 0) (f := 0) hM rfl xclX8 fwX8_10 (by decide) dX8_support_51 rfl rfl ?_
    refine c_get (q := 57) (k := 1) (f := 3) hM rfl xclX1 fwX8_123 (by decide) dX8_support_54 rfl rfl ?_
    refine x_iload_n (q := 58) dX8_support_57 rfl rfl ?_
    refine c_zald (q := 59) (k := 17) (n := 4) hM rfl (by decide) (by decide) dX8_support_58 rfl hk4 ?_
    refine x_topi (y := bI (on)) (by rw [e49]; simp only [upd, if_true]) ?_
    refine x_if_ne (q := 62) 72 dX8_support_59 (by decide) rfl (fun hc59 => ?_) (fun hc59 => ?_)
    · have hon : on = true := bI_ne.mp hc59
      refine fin (c.Hi k) (cHi c k on) σ49 M N S _ rfl rfl (a49.mono (by decide)) ?_ (fun σ' h1 h2 h3 => by rw [if_pos ha]; exact ⟨rfl, h1, h2, h3⟩) hM
      refine ⟨g0, by rw [a49 1 (by decide)]; exact g1, fun i hi => by rw [a49 14 (by decide)]; exact g2 i hi, fun i hi => by rw [a49 15 (by decide)]; exact g3 i hi, fun i hi => by rw [a49 16 (by decide)]; exact g4 i hi, fun i hi => ?_, fun i hi => ?_, fun i hi => ?_⟩
      · show (σ49 17).1 i = bI (mu c.Hi k on i)
        rw [e49]
        by_cases ei : i = k
        · rw [ei, mu_s]; simp only [upd, if_true]
        · rw [mu_n ei]; simp only [upd, if_neg ei]; exact g5 i hi
      · show (σ49 18).1 i = bI (c.Tu i)
        rw [a49 18 (by decide)]; exact g6 i hi
      · show (σ49 19).2.1 i = iL ((if on = true then c.Se else mu c.Se k 0) i)
        rw [if_pos hon, a49 19 (by decide)]; exact g7 i hi
    · have hon : on = false := bI_eq.mp hc59
      refine x_aload_n (q := 63) dX8_support_62 rfl rfl ?_
      refine c_get (q := 66) (k := 0) (f := 0) hM rfl xclX8 fwX8_10 (by decide) dX8_support_63 rfl rfl ?_
      refine c_get (q := 69) (k := 1) (f := 5) hM rfl xclX1 fwX8_130 (by decide) dX8_support_66 rfl rfl ?_
      refine x_iload_n (q := 70) dX8_support_69 rfl rfl ?_
      refine xn_lconst (q := 71) 0 dX8_support_70 rfl (by decide) ?_
      refine c_last (q := 72) (k := 19) (n := 4) hM (by decide) (fun _ => rfl) (by decide) dX8_support_71 rfl hk4 (fun M σ71 a71 e71 b71 hM => ?_)
      refine fin (c.Hi k) (cHi c k on) σ71 M N S _ rfl rfl ((a49.mono (by decide)).trans (a71.mono (by decide))) ?_ (fun σ' h1 h2 h3 => by rw [if_pos ha]; exact ⟨rfl, h1, h2, h3⟩) hM
      refine ⟨g0, by rw [a71 1 (by decide), a49 1 (by decide)]; exact g1, fun i hi => by rw [a71 14 (by decide), a49 14 (by decide)]; exact g2 i hi, fun i hi => by rw [a71 15 (by decide), a49 15 (by decide)]; exact g3 i hi, fun i hi => by rw [a71 16 (by decide), a49 16 (by decide)]; exact g4 i hi, fun i hi => ?_, fun i hi => ?_, fun i hi => ?_⟩
      · show (σ71 17).1 i = bI (mu c.Hi k on i)
        rw [a71 17 (by decide), e49]
        by_cases ei : i = k
        · rw [ei, mu_s]; simp only [upd, if_true]
        · rw [mu_n ei]; simp only [upd, if_neg ei]; exact g5 i hi
      · show (σ71 18).1 i = bI (c.Tu i)
        rw [a71 18 (by decide), a49 18 (by decide)]; exact g6 i hi
      · show (σ71 19).2.1 i = iL ((if on = true then c.Se else mu c.Se k 0) i)
        rw [if_neg (by rw [hon]; decide), e71, a49 19 (by decide)]
        by_cases ei : i = k
        · rw [ei, mu_s]; simp only [vp_updL, if_true]; rfl
        · rw [mu_n ei]; simp only [vp_updL, if_neg ei]; exact g7 i hi

  have s1 : ∀ (M : xM) (N S : Nat), a = 1 → cA G ad F R σ M N S → xX G l YX8_support (d + 2) (cQ G ad F R (fun r σ' => if a = 0 then r = some (.int (bI (c.Hi k))) ∧ kp [0, 4, 17, 18, 19] σ σ' ∧ Bm σ' 1 (cHi c k on) ∧ Fgt σ σ' else if a = 1 then r = some (.int (bI (c.Tu k))) ∧ kp [0, 4, 17, 18, 19] σ σ' ∧ Bm σ' 1 (cTu c k on) ∧ Fgt σ σ' else r = some (.int (bI false)) ∧ σ' = σ)) 39 [(0, .ref (ad 0)), (1, .int (nI k)), (2, .int (iI a)), (3, .int (bI on)), (4, .ref (ad 18))] [] M N S := by
    intro M N S ha hM

    refine x_aload (q := 41) dX8_support_39 rfl rfl ?_
    refine x_iload_n (q := 42) dX8_support_41 rfl rfl ?_
    refine c_zald (q := 43) (k := 18) (n := 4) hM rfl (by decide) (by decide) dX8_support_42 rfl hk4 ?_
    refine x_topi (y := bI (c.Tu k)) (by exact g6 k hk4) ?_
    refine x_istore (q := 45) (ls' := [(0, _), (1, _), (2, _), (3, _), (4, _), (5, _)]) [1, 2, 3, 4, 5, 0] dX8_support_43 rfl (by decide) rfl ?_
    refine x_aload (q := 47) dX8_support_45 rfl rfl ?_
    refine x_iload_n (q := 48) dX8_support_47 rfl rfl ?_
    refine x_iload_n (q := 49) dX8_support_48 rfl rfl ?_
    refine c_zast (q := 50) (k := 18) (n := 4) hM (by decide) (fun _ => rfl) (by decide) dX8_support_49 rfl hk4 (bI_v _) (fun M σ49 a49 e49 b49 hM => ?_)
    refine x_aload_n (q := 51) dX8_support_50 rfl rfl ?_
    refine c_get (q := 54) (k := 0) (f := 0) hM rfl xclX8 fwX8_10 (by decide) dX8_support_51 rfl rfl ?_
    refine c_get (q := 57) (k := 1) (f := 3) hM rfl xclX1 fwX8_123 (by decide) dX8_support_54 rfl rfl ?_
    refine x_iload_n (q := 58) dX8_support_57 rfl rfl ?_
    refine c_zald (q := 59) (k := 17) (n := 4) hM rfl (by decide) (by decide) dX8_support_58 rfl hk4 ?_
    refine x_topi (y := bI (c.Hi k)) (by rw [a49 17 (by decide)]; exact g5 k hk4) ?_
    refine x_if_ne (q := 62) 72 dX8_support_59 (by decide) rfl (fun hc59 => ?_) (fun hc59 => ?_)
    · have hon : c.Hi k = true := bI_ne.mp hc59
      refine fin (c.Tu k) (cTu c k on) σ49 M N S _ rfl rfl (a49.mono (by decide)) ?_ (fun σ' h1 h2 h3 => by rw [if_neg (by omega), if_pos ha]; exact ⟨rfl, h1, h2, h3⟩) hM
      refine ⟨g0, by rw [a49 1 (by decide)]; exact g1, fun i hi => by rw [a49 14 (by decide)]; exact g2 i hi, fun i hi => by rw [a49 15 (by decide)]; exact g3 i hi, fun i hi => by rw [a49 16 (by decide)]; exact g4 i hi, fun i hi => ?_, fun i hi => ?_, fun i hi => ?_⟩
      · show (σ49 17).1 i = bI (c.Hi i)
        rw [a49 17 (by decide)]; exact g5 i hi
      · show (σ49 18).1 i = bI (mu c.Tu k on i)
        rw [e49]
        by_cases ei : i = k
        · rw [ei, mu_s]; simp only [upd, if_true]
        · rw [mu_n ei]; simp only [upd, if_neg ei]; exact g6 i hi
      · show (σ49 19).2.1 i = iL (c.Se i)
        rw [a49 19 (by decide)]; exact g7 i hi
    · have hon : c.Hi k = false := bI_eq.mp hc59
      refine x_aload_n (q := 63) dX8_support_62 rfl rfl ?_
      refine c_get (q := 66) (k := 0) (f := 0) hM rfl xclX8 fwX8_10 (by decide) dX8_support_63 rfl rfl ?_
      refine c_get (q := 69) (k := 1) (f := 5) hM rfl xclX1 fwX8_130 (by decide) dX8_support_66 rfl rfl ?_
      refine x_iload_n (q := 70) dX8_support_69 rfl rfl ?_
      refine xn_lconst (q := 71) 0 dX8_support_70 rfl (by decide) ?_
      refine c_last (q := 72) (k := 19) (n := 4) hM (by decide) (fun _ => rfl) (by decide) dX8_support_71 rfl hk4 (fun M σ71 a71 e71 b71 hM => ?_)
      refine fin (c.Tu k) (cTu c k on) σ71 M N S _ rfl rfl ((a49.mono (by decide)).trans (a71.mono (by decide))) ?_ (fun σ' h1 h2 h3 => by rw [if_neg (by omega), if_pos ha]; exact ⟨rfl, h1, h2, h3⟩) hM
      refine ⟨g0, by rw [a71 1 (by decide), a49 1 (by decide)]; exact g1, fun i hi => by rw [a71 14 (by decide), a49 14 (by decide)]; exact g2 i hi, fun i hi => by rw [a71 15 (by decide), a49 15 (by decide)]; exact g3 i hi, fun i hi => by rw [a71 16 (by decide), a49 16 (by decide)]; exact g4 i hi, fun i hi => ?_, fun i hi => ?_, fun i hi => ?_⟩
      · show (σ71 17).1 i = bI (c.Hi i)
        rw [a71 17 (by decide), a49 17 (by decide)]; exact g5 i hi
      · show (σ71 18).1 i = bI (mu c.Tu k on i)
        rw [a71 18 (by decide), e49]
        by_cases ei : i = k
        · rw [ei, mu_s]; simp only [upd, if_true]
        · rw [mu_n ei]; simp only [upd, if_neg ei]; exact g6 i hi
      · show (σ71 19).2.1 i = iL (c.Se i)
        rw [e71, a49 19 (by decide)]
        by_cases ei : i = k
        · rw [ei, hse k hk4 hon]; simp only [vp_updL, if_true]; rfl
        · simp only [vp_updL, if_neg ei]; exact g7 i hi

  refine cC.of (ls := [(0, .ref (ad 0)), (1, .int (nI k)), (2, .int (iI a)), (3, .int (bI on))]) (by decide) (Nat.le_of_ble_eq_true rfl) rfl fun M N S hM => ?_

  refine x_aload_n (q := 1) dX8_support_0 rfl rfl ?_
  refine x_iload_n (q := 2) dX8_support_1 rfl rfl ?_
  refine c_call (q := 5) (k := 0) (As := [_]) hM rfl imX8_checkNode ivX8_checkNode ilX8_checkNode mwX8_120 xciX8 dX8_support_2 rfl rfl rfl (Nat.le_of_ble_eq_true rfl) ?_
  refine (b_checkNode G l ad F R d σ c hc' k hk).mono (fun x9 σ9' hp => ?_)
  obtain ⟨rfl, e9⟩ := hp
  intro M N S hM
  rw [e9] at hM; clear e9 σ9'
  show xX G l _ (d + 2) _ _ _ _ M N S
  refine x_iload_n (q := 6) dX8_support_5 rfl rfl ?_
  refine xi_if_eq (q := 9) 16 dX8_support_6 (by decide) rfl rfl (by omega) (by omega) (fun hc6 => ?_) (fun hc6 => ?_)
  · refine x_iload_n (q := 17) dX8_support_16 rfl rfl ?_
    refine xi_if_ne (q := 20) 30 dX8_support_17 (by decide) rfl rfl (by omega) (by omega) (fun hc17 => ?_) (fun hc17 => ?_)
    · refine x_aload_n (q := 31) dX8_support_30 rfl rfl ?_
      refine c_get (q := 34) (k := 0) (f := 0) hM rfl xclX8 fwX8_10 (by decide) dX8_support_31 rfl rfl ?_
      refine c_get (q := 37) (k := 1) (f := 4) hM rfl xclX1 fwX8_127 (by decide) dX8_support_34 rfl rfl ?_
      refine x_astore (q := 39) (ls' := [(0, _), (1, _), (2, _), (3, _), (4, _)]) [1, 2, 3, 4, 0] dX8_support_37 rfl (by decide) rfl ?_
      exact s1 M N S (by omega) hM
    · refine x_aload_n (q := 21) dX8_support_20 rfl rfl ?_
      refine c_get (q := 24) (k := 0) (f := 0) hM rfl xclX8 fwX8_10 (by decide) dX8_support_21 rfl rfl ?_
      refine c_get (q := 27) (k := 1) (f := 3) hM rfl xclX1 fwX8_123 (by decide) dX8_support_24 rfl rfl ?_
      refine x_goto 37 dX8_support_27 (by decide) ?_
      refine x_astore (q := 39) (ls' := [(0, _), (1, _), (2, _), (3, _), (4, _)]) [1, 2, 3, 4, 0] dX8_support_37 rfl (by decide) rfl ?_
      exact s0 M N S (by omega) hM
  · refine x_iload_n (q := 10) dX8_support_9 rfl rfl ?_
    refine xn_iconst (q := 11) 1 dX8_support_10 rfl (by decide) ?_
    refine xi_icmp_eq (q := 14) 16 dX8_support_11 (by decide) rfl rfl (nI_i _) (by omega) (by omega) (by omega) (by omega) (fun hc11 => ?_) (fun hc11 => ?_)
    · refine x_iload_n (q := 17) dX8_support_16 rfl rfl ?_
      refine xi_if_ne (q := 20) 30 dX8_support_17 (by decide) rfl rfl (by omega) (by omega) (fun hc17 => ?_) (fun hc17 => ?_)
      · refine x_aload_n (q := 31) dX8_support_30 rfl rfl ?_
        refine c_get (q := 34) (k := 0) (f := 0) hM rfl xclX8 fwX8_10 (by decide) dX8_support_31 rfl rfl ?_
        refine c_get (q := 37) (k := 1) (f := 4) hM rfl xclX1 fwX8_127 (by decide) dX8_support_34 rfl rfl ?_
        refine x_astore (q := 39) (ls' := [(0, _), (1, _), (2, _), (3, _), (4, _)]) [1, 2, 3, 4, 0] dX8_support_37 rfl (by decide) rfl ?_
        exact s1 M N S (by omega) hM
      · refine x_aload_n (q := 21) dX8_support_20 rfl rfl ?_
        refine c_get (q := 24) (k := 0) (f := 0) hM rfl xclX8 fwX8_10 (by decide) dX8_support_21 rfl rfl ?_
        refine c_get (q := 27) (k := 1) (f := 3) hM rfl xclX1 fwX8_123 (by decide) dX8_support_24 rfl rfl ?_
        refine x_goto 37 dX8_support_27 (by decide) ?_
        refine x_astore (q := 39) (ls' := [(0, _), (1, _), (2, _), (3, _), (4, _)]) [1, 2, 3, 4, 0] dX8_support_37 rfl (by decide) rfl ?_
        exact s0 M N S (by omega) hM
    · refine xn_iconst (q := 15) 0 dX8_support_14 rfl (by decide) ?_
      exact x_zret rfl (by decide) dX8_support_15 (c_ret hM (by rw [if_neg (by omega), if_neg (by omega)]; exact ⟨rfl, rfl⟩))

set_option maxRecDepth 100000 in
set_option maxHeartbeats 4000000 in
theorem b_settled (G : xG) (l : Launch) (ad : Nat → Nat) (F : xM) (R : Nat × Nat) (d : Nat) (σ : cZ) (c : mCf) (hc : Bm σ 1 c) (n : Int) (hn1 : -2147483648 ≤ n) (hn2 : n < 2147483648) (v : Int) (hv1 : -9223372036854775808 ≤ v) (hv2 : v < 9223372036854775808) : cC G l ad F R YX8_settled (d + 2) [.ref (ad 0), .int (iI n), .long (iL v)] σ (fun r σ' => if hdB c n = true ∧ -1000 ≤ v ∧ v ≤ 1000 then r = some (.int (bI true)) ∧ kp [0, 19] σ σ' ∧ Bm σ' 1 (cSe c n.toNat v) ∧ (σ' 0).1 = (σ 0).1 ∧ (σ' 0).2.1 13 = iL (-1) else r = some (.int (bI false)) ∧ σ' = σ) := by
  have hm := hc.1
  refine cC.of (ls := [(0, .ref (ad 0)), (1, .int (iI n)), (2, .long (iL v))]) (by decide) (Nat.le_of_ble_eq_true rfl) rfl fun M N S hM => ?_

  refine x_aload_n (q := 1) dX8_settled_0 rfl rfl ?_
  refine x_iload_n (q := 2) dX8_settled_1 rfl rfl ?_
  refine c_call (q := 5) (k := 0) (As := [_]) hM rfl imX8_isHeld ivX8_isHeld ilX8_isHeld mwX8_214 xciX8 dX8_settled_2 rfl rfl rfl (Nat.le_of_ble_eq_true rfl) ?_
  refine (b_isHeld G l ad F R d σ c hc n hn1 hn2).mono (fun x9 σ9' hp => ?_)
  obtain ⟨rfl, e9⟩ := hp
  intro M N S hM
  rw [e9] at hM; clear e9 σ9'
  show xX G l _ (d + 2) _ _ _ _ M N S
  refine x_if_eq (q := 8) 24 dX8_settled_5 (by decide) rfl (fun hc5 => ?_) (fun hc5 => ?_)
  · refine xn_iconst (q := 25) 0 dX8_settled_24 rfl (by decide) ?_
    exact x_zret rfl (by decide) dX8_settled_25 (c_ret hM (by rw [if_neg (fun z => by rw [bI_eq.mp hc5] at z; exact absurd z.1 (by decide))]; exact ⟨rfl, rfl⟩))
  · refine x_lload_n (q := 9) dX8_settled_8 rfl rfl ?_
    refine x_ldc2 (q := 12) (-1000) dX8_settled_9 rfl cwX8_217 ?_
    refine x_topl (y := iL (-1000)) (by decide) ?_
    refine xi_lcmp_lt (q1 := 13) (q := 16) 24 dX8_settled_12 rfl dX8_settled_13 (by decide) rfl rfl rfl (by omega) (by omega) (by omega) (by omega) (fun hc12 => ?_) (fun hc12 => ?_)
    · refine xn_iconst (q := 25) 0 dX8_settled_24 rfl (by decide) ?_
      exact x_zret rfl (by decide) dX8_settled_25 (c_ret hM (by rw [if_neg (by omega)]; exact ⟨rfl, rfl⟩))
    · refine x_lload_n (q := 17) dX8_settled_16 rfl rfl ?_
      refine xn_ldc2 (q := 20) 1000 dX8_settled_17 rfl cwX8_219 ?_
      refine xi_lcmp_le (q1 := 21) (q := 24) 26 dX8_settled_20 rfl dX8_settled_21 (by decide) rfl rfl (lN_i' _) (by omega) (by omega) (by omega) (by omega) (fun hc20 => ?_) (fun hc20 => ?_)
      · have hnd : 0 ≤ n ∧ n ≤ (c.m : Int) := by have h9 := bI_ne.mp hc5; unfold hdB ndB at h9; rw [Bool.and_eq_true, decide_eq_true_eq] at h9; exact h9.1
        refine x_aload_n (q := 27) dX8_settled_26 rfl rfl ?_
        refine c_get (q := 30) (k := 0) (f := 0) hM rfl xclX8 fwX8_10 (by decide) dX8_settled_27 rfl rfl ?_
        refine c_get (q := 33) (k := 1) (f := 5) hM rfl xclX1 fwX8_130 (by decide) dX8_settled_30 rfl rfl ?_
        refine x_iload_n (q := 34) dX8_settled_33 rfl rfl ?_
        refine x_topi (y := nI n.toNat) (iI_nat hnd.1) ?_
        refine x_lload_n (q := 35) dX8_settled_34 rfl rfl ?_
        refine c_last (q := 36) (k := 19) (n := 4) hM (by decide) (fun _ => rfl) (by decide) dX8_settled_35 rfl (by omega) (fun M σ35 a35 e35 b35 hM => ?_)
        refine x_aload_n (q := 37) dX8_settled_36 rfl rfl ?_
        refine x_ldc2 (q := 40) (-1) dX8_settled_37 rfl cwX8_82 ?_
        refine x_topl (y := iL (-1)) (by decide) ?_
        refine c_putl (q := 43) (k := 0) (f := 13) hM rfl rfl xclX8 fwX8_84 (by decide) rfl rfl (Nat.le_of_ble_eq_true rfl) dX8_settled_40 rfl rfl rfl (fun M σ40 a40 e40 b40 hM => ?_)
        refine xn_iconst (q := 44) 1 dX8_settled_43 rfl (by decide) ?_
        refine x_zret rfl (by decide) dX8_settled_44 (c_ret hM (by
          rw [if_pos ⟨bI_ne.mp hc5, by omega, by omega⟩]
          obtain ⟨g0, g1, g2, g3, g4, g5, g6, g7⟩ := hc
          refine ⟨rfl, (a35.mono (by decide)).trans (a40.mono (by decide)), ⟨g0, by rw [a40 1 (by decide), a35 1 (by decide)]; exact g1, fun i hi => by rw [a40 14 (by decide), a35 14 (by decide)]; exact g2 i hi, fun i hi => by rw [a40 15 (by decide), a35 15 (by decide)]; exact g3 i hi, fun i hi => by rw [a40 16 (by decide), a35 16 (by decide)]; exact g4 i hi, fun i hi => by rw [a40 17 (by decide), a35 17 (by decide)]; exact g5 i hi, fun i hi => by rw [a40 18 (by decide), a35 18 (by decide)]; exact g6 i hi, fun i hi => ?_⟩, by rw [b40.1, a35 0 (by decide)], by rw [e40, mu_s]⟩
          show (σ40 19).2.1 i = iL (mu c.Se n.toNat v i)
          rw [a40 19 (by decide), e35]
          by_cases ei : i = n.toNat
          · rw [ei, mu_s]; simp only [vp_updL, if_true]
          · rw [mu_n ei]; simp only [vp_updL, if_neg ei]; exact g7 i hi))
      · refine xn_iconst (q := 25) 0 dX8_settled_24 rfl (by decide) ?_
        exact x_zret rfl (by decide) dX8_settled_25 (c_ret hM (by rw [if_neg (by omega)]; exact ⟨rfl, rfl⟩))

set_option maxRecDepth 100000 in
set_option maxHeartbeats 4000000 in
theorem b_solve (G : xG) (l : Launch) (ad : Nat → Nat) (F : xM) (R : Nat × Nat) (d : Nat) (σ : cZ) (c : mCf) (hc : Bm σ 1 c) (hok : okL c) (hfo : frOk c) (hF : Fi σ c) : cC G l ad F R YX8_solve (d + 7) [.ref (ad 0)] σ (fun r σ' => r = some (.int (nI (slN (slC c) 4))) ∧ kp pK σ σ' ∧ (σ' 4).1 13 = nI 1 ∧ Fk σ' c) := by
  refine cC.of (ls := [(0, .ref (ad 0))]) (by decide) (Nat.le_of_ble_eq_true rfl) rfl fun M N S hM => ?_

  refine x_aload_n (q := 1) dX8_solve_0 rfl rfl ?_
  refine c_get (q := 4) (k := 0) (f := 3) hM rfl xclX8 fwX8_31 (by decide) dX8_solve_1 rfl rfl ?_
  refine c_call (q := 7) (k := 4) (As := []) hM rfl imX4_prepare ivX4_prepare ilX4_prepare mwX8_136 xciX4 dX8_solve_4 rfl rfl rfl (Nat.le_of_ble_eq_true rfl) ?_
  refine (b_prepare G l ad F R d σ c hc hok hfo hF).mono (fun x9 σ4 hp => ?_)
  obtain ⟨rfl, q1, q2, q3⟩ := hp
  intro M N S hM
  show xX G l _ (d + 7) _ _ _ _ M N S
  refine x_aload_n (q := 8) dX8_solve_7 rfl rfl ?_
  refine c_get (q := 11) (k := 0) (f := 3) hM rfl xclX8 fwX8_31 (by decide) dX8_solve_8 rfl rfl ?_
  refine c_call (q := 14) (k := 4) (As := []) hM rfl imX4_looseNodes ivX4_looseNodes ilX4_looseNodes mwX8_139 xciX4 dX8_solve_11 rfl rfl rfl (Nat.le_of_ble_eq_true rfl) ?_
  refine (b_looseNodes G l ad F R (d + 6) σ4 (slC c) q3.2.2.2.2.2.2).mono (fun x9 σ9' hp => ?_)
  obtain ⟨rfl, e9⟩ := hp
  intro M N S hM
  rw [e9] at hM; clear e9 σ9'
  show xX G l _ (d + 7) _ _ _ _ M N S
  exact x_iret rfl dX8_solve_14 (c_ret hM ⟨rfl, q1, q2, q3⟩)

set_option maxRecDepth 100000 in
set_option maxHeartbeats 4000000 in
theorem b_loose (G : xG) (l : Launch) (ad : Nat → Nat) (F : xM) (R : Nat × Nat) (d : Nat) (σ : cZ) (c : mCf) (hc : Bm σ 1 c) (hok : okL c) (hfo : frOk c) (hF : Fi σ c) (k : Int) (hk1 : -2147483648 ≤ k) (hk2 : k < 2147483648) : cC G l ad F R YX8_loose (d + 7) [.ref (ad 0), .int (iI k)] σ (fun r σ' => r = some (.int (iI (lnP (slC c) 4 0 k))) ∧ kp pK σ σ' ∧ (σ' 4).1 13 = nI 1 ∧ Fk σ' c) := by
  refine cC.of (ls := [(0, .ref (ad 0)), (1, .int (iI k))]) (by decide) (Nat.le_of_ble_eq_true rfl) rfl fun M N S hM => ?_

  refine x_aload_n (q := 1) dX8_loose_0 rfl rfl ?_
  refine c_get (q := 4) (k := 0) (f := 3) hM rfl xclX8 fwX8_31 (by decide) dX8_loose_1 rfl rfl ?_
  refine c_call (q := 7) (k := 4) (As := []) hM rfl imX4_prepare ivX4_prepare ilX4_prepare mwX8_136 xciX4 dX8_loose_4 rfl rfl rfl (Nat.le_of_ble_eq_true rfl) ?_
  refine (b_prepare G l ad F R d σ c hc hok hfo hF).mono (fun x9 σ4 hp => ?_)
  obtain ⟨rfl, q1, q2, q3⟩ := hp
  intro M N S hM
  show xX G l _ (d + 7) _ _ _ _ M N S
  refine x_aload_n (q := 8) dX8_loose_7 rfl rfl ?_
  refine c_get (q := 11) (k := 0) (f := 3) hM rfl xclX8 fwX8_31 (by decide) dX8_loose_8 rfl rfl ?_
  refine x_iload_n (q := 12) dX8_loose_11 rfl rfl ?_
  refine c_call (q := 15) (k := 4) (As := [_]) hM rfl imX4_looseNode ivX4_looseNode ilX4_looseNode mwX8_143 xciX4 dX8_loose_12 rfl rfl rfl (Nat.le_of_ble_eq_true rfl) ?_
  refine (b_looseNode G l ad F R (d + 6) σ4 (slC c) q3.2.2.2.2.2.2 k hk1 hk2).mono (fun x9 σ9' hp => ?_)
  obtain ⟨rfl, e9⟩ := hp
  intro M N S hM
  rw [e9] at hM; clear e9 σ9'
  show xX G l _ (d + 7) _ _ _ _ M N S
  exact x_iret rfl dX8_loose_15 (c_ret hM ⟨rfl, q1, q2, q3⟩)

end XD9
