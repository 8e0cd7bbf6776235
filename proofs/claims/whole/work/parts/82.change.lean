section XD8
/-- the frame and the told fraction are forgotten -/
def Fgt (σ σ' : cZ) : Prop := (σ' 4).1 13 = nI 0 ∧ (σ' 0).1 = (σ 0).1 ∧ (σ' 0).2.1 13 = iL (-1)

set_option maxRecDepth 100000 in
set_option maxHeartbeats 4000000 in
theorem b_checkBeam (G : xG) (l : Launch) (ad : Nat → Nat) (F : xM) (R : Nat × Nat) (d : Nat) (σ : cZ) (c : mCf) (hc : Bm σ 1 c) (k : Nat) (hk : k < c.m) : cC G l ad F R YX8_checkBeam d [.ref (ad 0), .int (nI k)] σ (fun r σ' => r = none ∧ σ' = σ) := by
  have hm := hc.1
  refine cC.of (ls := [(0, .ref (ad 0)), (1, .int (nI k))]) (by decide) (Nat.le_of_ble_eq_true rfl) rfl fun M N S hM => ?_

  refine x_iload_n (q := 1) dX8_checkBeam_0 rfl rfl ?_
  refine xn_if_lt (q := 4) 15 dX8_checkBeam_1 (by decide) rfl (by omega) (fun hc1 => absurd hc1 (by omega)) (fun hc1 => ?_)
  refine x_iload_n (q := 5) dX8_checkBeam_4 rfl rfl ?_
  refine x_aload_n (q := 6) dX8_checkBeam_5 rfl rfl ?_
  refine c_get (q := 9) (k := 0) (f := 0) hM rfl xclX8 fwX8_10 (by decide) dX8_checkBeam_6 rfl rfl ?_
  refine c_get (q := 12) (k := 1) (f := 6) hM rfl xclX1 fwX8_201 (by decide) dX8_checkBeam_9 rfl rfl ?_
  refine x_topi (y := nI c.m) (by exact hc.2.1) ?_
  refine xn_icmp_lt (q := 15) 25 dX8_checkBeam_12 (by decide) rfl (by omega) (by omega) (fun hc12 => ?_) (fun hc12 => absurd hc12 (by omega))
  exact x_vret rfl dX8_checkBeam_25 (c_ret hM ⟨rfl, rfl⟩)

set_option maxRecDepth 100000 in
set_option maxHeartbeats 4000000 in
theorem b_checkNode (G : xG) (l : Launch) (ad : Nat → Nat) (F : xM) (R : Nat × Nat) (d : Nat) (σ : cZ) (c : mCf) (hc : Bm σ 1 c) (k : Nat) (hk : k ≤ c.m) : cC G l ad F R YX8_checkNode (d + 1) [.ref (ad 0), .int (nI k)] σ (fun r σ' => r = none ∧ σ' = σ) := by
  have hm := hc.1
  have hn : ndB c (k : Int) = true := decide_eq_true ⟨by omega, by omega⟩
  refine cC.of (ls := [(0, .ref (ad 0)), (1, .int (nI k))]) (by decide) (Nat.le_of_ble_eq_true rfl) rfl fun M N S hM => ?_

  refine x_aload_n (q := 1) dX8_checkNode_0 rfl rfl ?_
  refine x_iload_n (q := 2) dX8_checkNode_1 rfl rfl ?_
  refine x_topi (y := iI (k : Int)) (nI_i k) ?_
  refine c_call (q := 5) (k := 0) (As := [_]) hM rfl imX8_isNode ivX8_isNode ilX8_isNode mwX8_221 xciX8 dX8_checkNode_2 rfl rfl rfl (Nat.le_of_ble_eq_true rfl) ?_
  refine (b_isNode G l ad F R d σ c hc (k : Int) (by omega) (by omega)).mono (fun x9 σ9' hp => ?_)
  obtain ⟨rfl, e9⟩ := hp
  intro M N S hM
  rw [e9] at hM; clear e9 σ9'
  rw [hn]
  show xX G l _ (d + 1) _ _ _ _ M N S
  refine x_if_ne (q := 8) 18 dX8_checkNode_5 (by decide) rfl (fun hc5 => ?_) (fun hc5 => absurd hc5 (by decide))
  exact x_vret rfl dX8_checkNode_18 (c_ret hM ⟨rfl, rfl⟩)

set_option maxRecDepth 100000 in
set_option maxHeartbeats 4000000 in
theorem b_member (G : xG) (l : Launch) (ad : Nat → Nat) (F : xM) (R : Nat × Nat) (d : Nat) (σ : cZ) (c : mCf) (hc : Bm σ 1 c) (k : Nat) (hk : k < c.m) (x y : Int) (hx1 : -9223372036854775808 ≤ x) (hx2 : x < 9223372036854775808) (hy1 : -9223372036854775808 ≤ y) (hy2 : y < 9223372036854775808) : cC G l ad F R YX8_member (d + 2) [.ref (ad 0), .int (nI k), .long (iL x), .long (iL y)] σ (fun r σ' => if 1 ≤ x ∧ x ≤ 12 ∧ 1 ≤ y ∧ y ≤ 12 then r = some (.int (bI true)) ∧ kp [0, 4, 14, 15] σ σ' ∧ Bm σ' 1 (cLE c k x.toNat y.toNat) ∧ Fgt σ σ' else r = some (.int (bI false)) ∧ σ' = σ) := by
  have hm := hc.1
  refine cC.of (ls := [(0, .ref (ad 0)), (1, .int (nI k)), (2, .long (iL x)), (4, .long (iL y))]) (by decide) (Nat.le_of_ble_eq_true rfl) rfl fun M N S hM => ?_

  refine x_aload_n (q := 1) dX8_member_0 rfl rfl ?_
  refine x_iload_n (q := 2) dX8_member_1 rfl rfl ?_
  refine c_call (q := 5) (k := 0) (As := [_]) hM rfl imX8_checkBeam ivX8_checkBeam ilX8_checkBeam mwX8_105 xciX8 dX8_member_2 rfl rfl rfl (Nat.le_of_ble_eq_true rfl) ?_
  refine (b_checkBeam G l ad F R (d + 1) σ c hc k hk).mono (fun x9 σ9' hp => ?_)
  obtain ⟨rfl, e9⟩ := hp
  intro M N S hM
  rw [e9] at hM; clear e9 σ9'
  show xX G l _ (d + 2) _ _ _ _ M N S
  refine x_lload_n (q := 6) dX8_member_5 rfl rfl ?_
  refine c_callS (q := 9) (As := [_]) hM imX1_isNumber isX1_isNumber mwX8_109 dX8_member_6 rfl rfl rfl (Nat.le_of_ble_eq_true rfl) ?_
  refine (cC.of_x (fun M N S => b_isNumber G l (d + 1) M N S x hx1 hx2)).mono (fun x9 σ9' hp => ?_)
  obtain ⟨rfl, e9⟩ := hp
  intro M N S hM
  rw [e9] at hM; clear e9 σ9'
  show xX G l _ (d + 2) _ _ _ _ M N S
  refine x_if_eq (q := 12) 20 dX8_member_9 (by decide) rfl (fun hc9 => ?_) (fun hc9 => ?_)
  · refine xn_iconst (q := 21) 0 dX8_member_20 rfl (by decide) ?_
    have h9 := of_decide_eq_false (bI_eq.mp hc9)
    exact x_zret rfl (by decide) dX8_member_21 (c_ret hM (by rw [if_neg (by omega)]; exact ⟨rfl, rfl⟩))
  · refine x_lload (q := 14) dX8_member_12 rfl rfl ?_
    refine c_callS (q := 17) (As := [_]) hM imX1_isNumber isX1_isNumber mwX8_109 dX8_member_14 rfl rfl rfl (Nat.le_of_ble_eq_true rfl) ?_
    refine (cC.of_x (fun M N S => b_isNumber G l (d + 1) M N S y hy1 hy2)).mono (fun x9 σ9' hp => ?_)
    obtain ⟨rfl, e9⟩ := hp
    intro M N S hM
    rw [e9] at hM; clear e9 σ9'
    show xX G l _ (d + 2) _ _ _ _ M N S
    refine x_if_ne (q := 20) 22 dX8_member_17 (by decide) rfl (fun hc17 => ?_) (fun hc17 => ?_)
    · refine x_aload_n (q := 23) dX8_member_22 rfl rfl ?_
      refine c_get (q := 26) (k := 0) (f := 0) hM rfl xclX8 fwX8_10 (by decide) dX8_member_23 rfl rfl ?_
      refine c_get (q := 29) (k := 1) (f := 0) hM rfl xclX1 fwX8_113 (by decide) dX8_member_26 rfl rfl ?_
      refine x_iload_n (q := 30) dX8_member_29 rfl rfl ?_
      refine x_lload_n (q := 31) dX8_member_30 rfl rfl ?_
      refine c_last (q := 32) (k := 14) (n := 3) hM (by decide) (fun _ => rfl) (by decide) dX8_member_31 rfl (by omega) (fun M σ31 a31 e31 b31 hM => ?_)
      refine x_aload_n (q := 33) dX8_member_32 rfl rfl ?_
      refine c_get (q := 36) (k := 0) (f := 0) hM rfl xclX8 fwX8_10 (by decide) dX8_member_33 rfl rfl ?_
      refine c_get (q := 39) (k := 1) (f := 1) hM rfl xclX1 fwX8_117 (by decide) dX8_member_36 rfl rfl ?_
      refine x_iload_n (q := 40) dX8_member_39 rfl rfl ?_
      refine x_lload (q := 42) dX8_member_40 rfl rfl ?_
      refine c_last (q := 43) (k := 15) (n := 3) hM (by decide) (fun _ => rfl) (by decide) dX8_member_42 rfl (by omega) (fun M σ42 a42 e42 b42 hM => ?_)
      refine x_aload_n (q := 44) dX8_member_43 rfl rfl ?_
      refine c_call (q := 47) (k := 0) (As := []) hM rfl imX8_changed ivX8_changed ilX8_changed mwX8_102 xciX8 dX8_member_44 rfl rfl rfl (Nat.le_of_ble_eq_true rfl) ?_
      refine (b_changed G l ad F R d σ42).mono (fun x9 σ44 hp => ?_)
      obtain ⟨rfl, q1, q2, q3, q4⟩ := hp
      intro M N S hM
      show xX G l _ (d + 2) _ _ _ _ M N S
      refine xn_iconst (q := 48) 1 dX8_member_47 rfl (by decide) ?_
      have h8 := of_decide_eq_true (bI_ne.mp hc9)
      have h9 := of_decide_eq_true (bI_ne.mp hc17)
      refine x_zret rfl (by decide) dX8_member_48 (c_ret hM (by
        rw [if_pos (by omega)]
        obtain ⟨g0, g1, g2, g3, g4, g5, g6, g7⟩ := hc
        refine ⟨rfl, (a31.mono (by decide)).trans ((a42.mono (by decide)).trans (q1.mono (by decide))), ⟨g0, by rw [q1 1 (by decide), a42 1 (by decide), a31 1 (by decide)]; exact g1, fun i hi => ?_, fun i hi => ?_, fun i hi => by rw [q1 _ (by decide), a42 _ (by decide), a31 _ (by decide)]; exact g4 i hi, fun i hi => by rw [q1 _ (by decide), a42 _ (by decide), a31 _ (by decide)]; exact g5 i hi, fun i hi => by rw [q1 _ (by decide), a42 _ (by decide), a31 _ (by decide)]; exact g6 i hi, fun i hi => by rw [q1 _ (by decide), a42 _ (by decide), a31 _ (by decide)]; exact g7 i hi⟩, q2, by rw [q3, a42 0 (by decide), a31 0 (by decide)], q4⟩
        · show (σ44 14).2.1 i = lN (mu _ k x.toNat i)
          rw [q1 14 (by decide), a42 14 (by decide), e31]
          by_cases ei : i = k
          · rw [ei, mu_s]; simp only [vp_updL, if_true]; rw [lN_i']; congr 1; omega
          · rw [mu_n ei]; simp only [vp_updL, if_neg ei]; exact g2 i hi
        · show (σ44 15).2.1 i = lN (mu _ k y.toNat i)
          rw [q1 15 (by decide), e42, a31 15 (by decide)]
          by_cases ei : i = k
          · rw [ei, mu_s]; simp only [vp_updL, if_true]; rw [lN_i']; congr 1; omega
          · rw [mu_n ei]; simp only [vp_updL, if_neg ei]; exact g3 i hi))
    · refine xn_iconst (q := 21) 0 dX8_member_20 rfl (by decide) ?_
      have h9 := of_decide_eq_false (bI_eq.mp hc17)
      exact x_zret rfl (by decide) dX8_member_21 (c_ret hM (by rw [if_neg (by omega)]; exact ⟨rfl, rfl⟩))

set_option maxRecDepth 100000 in
set_option maxHeartbeats 4000000 in
theorem b_hinge (G : xG) (l : Launch) (ad : Nat → Nat) (F : xM) (R : Nat × Nat) (d : Nat) (σ : cZ) (c : mCf) (hc : Bm σ 1 c) (k : Nat) (hk : k < c.m) (e : Int) (he1 : -2147483648 ≤ e) (he2 : e < 2147483648) (on : Bool) : cC G l ad F R YX8_hinge (d + 2) [.ref (ad 0), .int (nI k), .int (iI e), .int (bI on)] σ (fun r σ' => if e = 0 ∨ e = 1 then r = some (.int (bI (c.Hg (2 * k + e.toNat)))) ∧ kp [0, 4, 16] σ σ' ∧ Bm σ' 1 (cHg c (2 * k + e.toNat) on) ∧ Fgt σ σ' else r = some (.int (bI false)) ∧ σ' = σ) := by
  have hm := hc.1
  have s16 : ∀ (M : xM) (N S : Nat), (e = 0 ∨ e = 1) → cA G ad F R σ M N S → xX G l YX8_hinge (d + 2) (cQ G ad F R (fun r σ' => if e = 0 ∨ e = 1 then r = some (.int (bI (c.Hg (2 * k + e.toNat)))) ∧ kp [0, 4, 16] σ σ' ∧ Bm σ' 1 (cHg c (2 * k + e.toNat) on) ∧ Fgt σ σ' else r = some (.int (bI false)) ∧ σ' = σ)) 16 [(0, .ref (ad 0)), (1, .int (nI k)), (2, .int (iI e)), (3, .int (bI on))] [] M N S := by
    intro M N S he hM
    rw [iI_nat (show 0 ≤ e by omega)]
    have hl : 2 * k + e.toNat < 6 := by omega
    generalize e.toNat = E at *

    refine x_aload_n (q := 17) dX8_hinge_16 rfl rfl ?_
    refine c_get (q := 20) (k := 0) (f := 0) hM rfl xclX8 fwX8_10 (by decide) dX8_hinge_17 rfl rfl ?_
    refine c_get (q := 23) (k := 1) (f := 2) hM rfl xclX1 fwX8_133 (by decide) dX8_hinge_20 rfl rfl ?_
    refine xn_iconst (q := 24) 2 dX8_hinge_23 rfl (by decide) ?_
    refine x_iload_n (q := 25) dX8_hinge_24 rfl rfl ?_
    refine xn_imul (q := 26) dX8_hinge_25 rfl ?_
    refine x_iload_n (q := 27) dX8_hinge_26 rfl rfl ?_
    refine xn_iadd (q := 28) dX8_hinge_27 rfl ?_
    refine c_zald (q := 29) (k := 16) (n := 6) hM rfl (by decide) (by decide) dX8_hinge_28 rfl hl ?_
    refine x_topi (y := bI (c.Hg (2 * k + E))) (by exact hc.2.2.2.2.1 _ hl) ?_
    refine x_istore (q := 31) (ls' := [(0, _), (1, _), (2, _), (3, _), (4, _)]) [1, 2, 3, 4, 0] dX8_hinge_29 rfl (by decide) rfl ?_
    refine x_aload_n (q := 32) dX8_hinge_31 rfl rfl ?_
    refine c_get (q := 35) (k := 0) (f := 0) hM rfl xclX8 fwX8_10 (by decide) dX8_hinge_32 rfl rfl ?_
    refine c_get (q := 38) (k := 1) (f := 2) hM rfl xclX1 fwX8_133 (by decide) dX8_hinge_35 rfl rfl ?_
    refine xn_iconst (q := 39) 2 dX8_hinge_38 rfl (by decide) ?_
    refine x_iload_n (q := 40) dX8_hinge_39 rfl rfl ?_
    refine xn_imul (q := 41) dX8_hinge_40 rfl ?_
    refine x_iload_n (q := 42) dX8_hinge_41 rfl rfl ?_
    refine xn_iadd (q := 43) dX8_hinge_42 rfl ?_
    refine x_iload_n (q := 44) dX8_hinge_43 rfl rfl ?_
    refine c_zast (q := 45) (k := 16) (n := 6) hM (by decide) (fun _ => rfl) (by decide) dX8_hinge_44 rfl hl (bI_v _) (fun M σ44 a44 e44 b44 hM => ?_)
    refine x_aload_n (q := 46) dX8_hinge_45 rfl rfl ?_
    refine c_call (q := 49) (k := 0) (As := []) hM rfl imX8_changed ivX8_changed ilX8_changed mwX8_102 xciX8 dX8_hinge_46 rfl rfl rfl (Nat.le_of_ble_eq_true rfl) ?_
    refine (b_changed G l ad F R d σ44).mono (fun x9 σ46 hp => ?_)
    obtain ⟨rfl, q1, q2, q3, q4⟩ := hp
    intro M N S hM
    show xX G l _ (d + 2) _ _ _ _ M N S
    refine x_iload (q := 51) dX8_hinge_49 rfl rfl ?_
    refine x_zret rfl (bI_n _) dX8_hinge_51 (c_ret hM (by
      rw [if_pos he]
      obtain ⟨g0, g1, g2, g3, g4, g5, g6, g7⟩ := hc
      refine ⟨rfl, (a44.mono (by decide)).trans (q1.mono (by decide)), ⟨g0, by rw [q1 1 (by decide), a44 1 (by decide)]; exact g1, fun i hi => by rw [q1 _ (by decide), a44 _ (by decide)]; exact g2 i hi, fun i hi => by rw [q1 _ (by decide), a44 _ (by decide)]; exact g3 i hi, fun i hi => ?_, fun i hi => by rw [q1 _ (by decide), a44 _ (by decide)]; exact g5 i hi, fun i hi => by rw [q1 _ (by decide), a44 _ (by decide)]; exact g6 i hi, fun i hi => by rw [q1 _ (by decide), a44 _ (by decide)]; exact g7 i hi⟩, q2, by rw [q3, a44 0 (by decide)], q4⟩
      show (σ46 16).1 i = bI (mu _ (2 * k + E) on i)
      rw [q1 16 (by decide), e44]
      by_cases ei : i = 2 * k + E
      · rw [ei, mu_s]; simp only [upd, if_true]
      · rw [mu_n ei]; simp only [upd, if_neg ei]; exact g4 i hi))

  refine cC.of (ls := [(0, .ref (ad 0)), (1, .int (nI k)), (2, .int (iI e)), (3, .int (bI on))]) (by decide) (Nat.le_of_ble_eq_true rfl) rfl fun M N S hM => ?_

  refine x_aload_n (q := 1) dX8_hinge_0 rfl rfl ?_
  refine x_iload_n (q := 2) dX8_hinge_1 rfl rfl ?_
  refine c_call (q := 5) (k := 0) (As := [_]) hM rfl imX8_checkBeam ivX8_checkBeam ilX8_checkBeam mwX8_105 xciX8 dX8_hinge_2 rfl rfl rfl (Nat.le_of_ble_eq_true rfl) ?_
  refine (b_checkBeam G l ad F R (d + 1) σ c hc k hk).mono (fun x9 σ9' hp => ?_)
  obtain ⟨rfl, e9⟩ := hp
  intro M N S hM
  rw [e9] at hM; clear e9 σ9'
  show xX G l _ (d + 2) _ _ _ _ M N S
  refine x_iload_n (q := 6) dX8_hinge_5 rfl rfl ?_
  refine xi_if_eq (q := 9) 16 dX8_hinge_6 (by decide) rfl rfl (by omega) (by omega) (fun hc6 => ?_) (fun hc6 => ?_)
  · exact s16 M N S (by omega) hM
  · refine x_iload_n (q := 10) dX8_hinge_9 rfl rfl ?_
    refine xn_iconst (q := 11) 1 dX8_hinge_10 rfl (by decide) ?_
    refine xi_icmp_eq (q := 14) 16 dX8_hinge_11 (by decide) rfl rfl (nI_i _) (by omega) (by omega) (by omega) (by omega) (fun hc11 => ?_) (fun hc11 => ?_)
    · exact s16 M N S (by omega) hM
    · refine xn_iconst (q := 15) 0 dX8_hinge_14 rfl (by decide) ?_
      exact x_zret rfl (by decide) dX8_hinge_15 (c_ret hM (by rw [if_neg (by omega)]; exact ⟨rfl, rfl⟩))

end XD8
