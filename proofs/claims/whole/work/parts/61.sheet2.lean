section XB5
set_option maxRecDepth 100000 in
set_option maxHeartbeats 4000000 in
theorem b_takeNode (G : xG) (l : Launch) (ad : Nat → Nat) (F : xM) (R : Nat × Nat) (d : Nat) (σ : cZ) (t : List Nat) (f k : Nat) (ht : Tf σ t f) (hk : k < 4) : cC G l ad F R YX7_takeNode (d + 1) [.ref (ad 3), .ref (ad 2), .int (nI k)] σ (fun r σ' => r = some (.int (bI (isND (sn t f)))) ∧ kp [3, 23, 24] σ σ' ∧ Tf σ' t (rdN t f false).1 ∧ (isND (sn t f) = true → (σ' 23).1 = upd (σ 23).1 k (bI (decide (sn t f = 83 ∨ sn t f = 70))) ∧ (σ' 24).1 = upd (σ 24).1 k (bI (decide (sn t f = 84 ∨ sn t f = 70))))) := by
  have hs := snI_or ht.1 f
  have hf := ht.2.2
  have s31 : ∀ (M : xM) (N S : Nat), isND (sn t f) = true → cA G ad F R σ M N S → xX G l YX7_takeNode (d + 1) (cQ G ad F R (fun r σ' => r = some (.int (bI (isND (sn t f)))) ∧ kp [3, 23, 24] σ σ' ∧ Tf σ' t (rdN t f false).1 ∧ (isND (sn t f) = true → (σ' 23).1 = upd (σ 23).1 k (bI (decide (sn t f = 83 ∨ sn t f = 70))) ∧ (σ' 24).1 = upd (σ 24).1 k (bI (decide (sn t f = 84 ∨ sn t f = 70)))))) 31 [(0, .ref (ad 3)), (1, .ref (ad 2)), (2, .int (nI k)), (3, .int (iI (snI t f)))] [] M N S := by
    intro M N S hnd hM
    have hnd' : sn t f = 46 ∨ sn t f = 83 ∨ sn t f = 84 ∨ sn t f = 70 := of_decide_eq_true hnd
    have s54 : ∀ (σ1 : cZ) (M : xM) (N S : Nat), kp [23] σ σ1 → (σ1 23).1 = upd (σ 23).1 k (bI (decide (sn t f = 83 ∨ sn t f = 70))) → cA G ad F R σ1 M N S → xX G l YX7_takeNode (d + 1) (cQ G ad F R (fun r σ' => r = some (.int (bI (isND (sn t f)))) ∧ kp [3, 23, 24] σ σ' ∧ Tf σ' t (rdN t f false).1 ∧ (isND (sn t f) = true → (σ' 23).1 = upd (σ 23).1 k (bI (decide (sn t f = 83 ∨ sn t f = 70))) ∧ (σ' 24).1 = upd (σ 24).1 k (bI (decide (sn t f = 84 ∨ sn t f = 70)))))) 54 [(0, .ref (ad 3)), (1, .ref (ad 2)), (2, .int (nI k)), (3, .int (iI (snI t f)))] [] M N S := by
      intro σ1 M N S k1 k2 hM
      have ht1 : Tf σ1 t f := ht.of_kp k1 (by decide) (by decide)

      refine x_aload_n (q := 55) dX7_takeNode_54 rfl rfl ?_
      refine c_get (q := 58) (k := 2) (f := 4) hM rfl xclX1 fwX7_43 (by decide) dX7_takeNode_55 rfl rfl ?_
      refine x_iload_n (q := 59) dX7_takeNode_58 rfl rfl ?_
      refine x_iload_n (q := 60) dX7_takeNode_59 rfl rfl ?_
      refine xn_bipush (q := 62) 84 dX7_takeNode_60 rfl (by decide) ?_
      refine xi_icmp_eq (q := 65) 71 dX7_takeNode_62 (by decide) rfl rfl (nI_i _) (by omega) (by omega) (by omega) (by omega) (fun hc62 => ?_) (fun hc62 => ?_)
      · refine xn_iconst (q := 72) 1 dX7_takeNode_71 rfl (by decide) ?_
        refine x_goto 76 dX7_takeNode_72 (by decide) ?_
        refine c_zast (q := 77) (k := 24) (n := 4) hM (by decide) (fun _ => rfl) (by decide) dX7_takeNode_76 rfl (by omega) (by decide) (fun M σ76 a76 e76 b76 hM => ?_)
        refine x_aload_n (q := 78) dX7_takeNode_77 rfl rfl ?_
        refine x_dup (q := 79) dX7_takeNode_78 rfl rfl ?_
        refine c_get (q := 82) (k := 3) (f := 2) hM rfl xclX7 fwX7_17 (by decide) dX7_takeNode_79 rfl rfl ?_
        refine x_topi (y := nI f) (by rw [a76 3 (by decide)]; exact ht1.2.1) ?_
        refine xn_iconst (q := 83) 1 dX7_takeNode_82 rfl (by decide) ?_
        refine xn_iadd (q := 84) dX7_takeNode_83 rfl ?_
        refine c_puti (q := 87) (k := 3) (f := 2) hM rfl rfl xclX7 fwX7_17 (by decide) rfl rfl (Nat.le_of_ble_eq_true rfl) dX7_takeNode_84 rfl rfl rfl (fun M σ84 a84 e84 b84 hM => ?_)
        refine xn_iconst (q := 88) 1 dX7_takeNode_87 rfl (by decide) ?_
        have hd9 : bI (decide (sn t f = 84 ∨ sn t f = 70)) = nI 1 := by rw [decide_eq_true (by omega)]; rfl
        exact x_zret rfl (by decide) dX7_takeNode_88 (c_ret hM ⟨by rw [hnd]; rfl, (k1.mono (by decide)).trans ((a76.mono (by decide)).trans (a84.mono (by decide))), by unfold rdN; rw [if_pos ⟨rfl, hnd⟩]; exact (ht1.of_kp a76 (by decide) (by decide)).put a84 e84 (by omega), fun _ => ⟨by rw [a84 23 (by decide), a76 23 (by decide)]; exact k2, by rw [a84 24 (by decide), e76, k1 24 (by decide), hd9]⟩⟩)
      · refine x_iload_n (q := 66) dX7_takeNode_65 rfl rfl ?_
        refine xn_bipush (q := 68) 70 dX7_takeNode_66 rfl (by decide) ?_
        refine xi_icmp_ne (q := 71) 75 dX7_takeNode_68 (by decide) rfl rfl (nI_i _) (by omega) (by omega) (by omega) (by omega) (fun hc68 => ?_) (fun hc68 => ?_)
        · refine xn_iconst (q := 76) 0 dX7_takeNode_75 rfl (by decide) ?_
          refine c_zast (q := 77) (k := 24) (n := 4) hM (by decide) (fun _ => rfl) (by decide) dX7_takeNode_76 rfl (by omega) (by decide) (fun M σ76 a76 e76 b76 hM => ?_)
          refine x_aload_n (q := 78) dX7_takeNode_77 rfl rfl ?_
          refine x_dup (q := 79) dX7_takeNode_78 rfl rfl ?_
          refine c_get (q := 82) (k := 3) (f := 2) hM rfl xclX7 fwX7_17 (by decide) dX7_takeNode_79 rfl rfl ?_
          refine x_topi (y := nI f) (by rw [a76 3 (by decide)]; exact ht1.2.1) ?_
          refine xn_iconst (q := 83) 1 dX7_takeNode_82 rfl (by decide) ?_
          refine xn_iadd (q := 84) dX7_takeNode_83 rfl ?_
          refine c_puti (q := 87) (k := 3) (f := 2) hM rfl rfl xclX7 fwX7_17 (by decide) rfl rfl (Nat.le_of_ble_eq_true rfl) dX7_takeNode_84 rfl rfl rfl (fun M σ84 a84 e84 b84 hM => ?_)
          refine xn_iconst (q := 88) 1 dX7_takeNode_87 rfl (by decide) ?_
          have hd9 : bI (decide (sn t f = 84 ∨ sn t f = 70)) = nI 0 := by rw [decide_eq_false (by omega)]; rfl
          exact x_zret rfl (by decide) dX7_takeNode_88 (c_ret hM ⟨by rw [hnd]; rfl, (k1.mono (by decide)).trans ((a76.mono (by decide)).trans (a84.mono (by decide))), by unfold rdN; rw [if_pos ⟨rfl, hnd⟩]; exact (ht1.of_kp a76 (by decide) (by decide)).put a84 e84 (by omega), fun _ => ⟨by rw [a84 23 (by decide), a76 23 (by decide)]; exact k2, by rw [a84 24 (by decide), e76, k1 24 (by decide), hd9]⟩⟩)
        · refine xn_iconst (q := 72) 1 dX7_takeNode_71 rfl (by decide) ?_
          refine x_goto 76 dX7_takeNode_72 (by decide) ?_
          refine c_zast (q := 77) (k := 24) (n := 4) hM (by decide) (fun _ => rfl) (by decide) dX7_takeNode_76 rfl (by omega) (by decide) (fun M σ76 a76 e76 b76 hM => ?_)
          refine x_aload_n (q := 78) dX7_takeNode_77 rfl rfl ?_
          refine x_dup (q := 79) dX7_takeNode_78 rfl rfl ?_
          refine c_get (q := 82) (k := 3) (f := 2) hM rfl xclX7 fwX7_17 (by decide) dX7_takeNode_79 rfl rfl ?_
          refine x_topi (y := nI f) (by rw [a76 3 (by decide)]; exact ht1.2.1) ?_
          refine xn_iconst (q := 83) 1 dX7_takeNode_82 rfl (by decide) ?_
          refine xn_iadd (q := 84) dX7_takeNode_83 rfl ?_
          refine c_puti (q := 87) (k := 3) (f := 2) hM rfl rfl xclX7 fwX7_17 (by decide) rfl rfl (Nat.le_of_ble_eq_true rfl) dX7_takeNode_84 rfl rfl rfl (fun M σ84 a84 e84 b84 hM => ?_)
          refine xn_iconst (q := 88) 1 dX7_takeNode_87 rfl (by decide) ?_
          have hd9 : bI (decide (sn t f = 84 ∨ sn t f = 70)) = nI 1 := by rw [decide_eq_true (by omega)]; rfl
          exact x_zret rfl (by decide) dX7_takeNode_88 (c_ret hM ⟨by rw [hnd]; rfl, (k1.mono (by decide)).trans ((a76.mono (by decide)).trans (a84.mono (by decide))), by unfold rdN; rw [if_pos ⟨rfl, hnd⟩]; exact (ht1.of_kp a76 (by decide) (by decide)).put a84 e84 (by omega), fun _ => ⟨by rw [a84 23 (by decide), a76 23 (by decide)]; exact k2, by rw [a84 24 (by decide), e76, k1 24 (by decide), hd9]⟩⟩)

    refine x_aload_n (q := 32) dX7_takeNode_31 rfl rfl ?_
    refine c_get (q := 35) (k := 2) (f := 3) hM rfl xclX1 fwX7_39 (by decide) dX7_takeNode_32 rfl rfl ?_
    refine x_iload_n (q := 36) dX7_takeNode_35 rfl rfl ?_
    refine x_iload_n (q := 37) dX7_takeNode_36 rfl rfl ?_
    refine xn_bipush (q := 39) 83 dX7_takeNode_37 rfl (by decide) ?_
    refine xi_icmp_eq (q := 42) 48 dX7_takeNode_39 (by decide) rfl rfl (nI_i _) (by omega) (by omega) (by omega) (by omega) (fun hc39 => ?_) (fun hc39 => ?_)
    · refine xn_iconst (q := 49) 1 dX7_takeNode_48 rfl (by decide) ?_
      refine x_goto 53 dX7_takeNode_49 (by decide) ?_
      refine c_zast (q := 54) (k := 23) (n := 4) hM (by decide) (fun _ => rfl) (by decide) dX7_takeNode_53 rfl (by omega) (by decide) (fun M σ53 a53 e53 b53 hM => ?_)
      exact s54 σ53 M N S a53 (by rw [e53, show bI (decide (sn t f = 83 ∨ sn t f = 70)) = nI 1 by rw [decide_eq_true (by omega)]; rfl]) hM
    · refine x_iload_n (q := 43) dX7_takeNode_42 rfl rfl ?_
      refine xn_bipush (q := 45) 70 dX7_takeNode_43 rfl (by decide) ?_
      refine xi_icmp_ne (q := 48) 52 dX7_takeNode_45 (by decide) rfl rfl (nI_i _) (by omega) (by omega) (by omega) (by omega) (fun hc45 => ?_) (fun hc45 => ?_)
      · refine xn_iconst (q := 53) 0 dX7_takeNode_52 rfl (by decide) ?_
        refine c_zast (q := 54) (k := 23) (n := 4) hM (by decide) (fun _ => rfl) (by decide) dX7_takeNode_53 rfl (by omega) (by decide) (fun M σ53 a53 e53 b53 hM => ?_)
        exact s54 σ53 M N S a53 (by rw [e53, show bI (decide (sn t f = 83 ∨ sn t f = 70)) = nI 0 by rw [decide_eq_false (by omega)]; rfl]) hM
      · refine xn_iconst (q := 49) 1 dX7_takeNode_48 rfl (by decide) ?_
        refine x_goto 53 dX7_takeNode_49 (by decide) ?_
        refine c_zast (q := 54) (k := 23) (n := 4) hM (by decide) (fun _ => rfl) (by decide) dX7_takeNode_53 rfl (by omega) (by decide) (fun M σ53 a53 e53 b53 hM => ?_)
        exact s54 σ53 M N S a53 (by rw [e53, show bI (decide (sn t f = 83 ∨ sn t f = 70)) = nI 1 by rw [decide_eq_true (by omega)]; rfl]) hM

  refine cC.of (ls := [(0, .ref (ad 3)), (1, .ref (ad 2)), (2, .int (nI k))]) (by decide) (Nat.le_of_ble_eq_true rfl) rfl fun M N S hM => ?_

  refine x_aload_n (q := 1) dX7_takeNode_0 rfl rfl ?_
  refine c_call (q := 4) (k := 3) (As := []) hM rfl imX7_seen ivX7_seen ilX7_seen mwX7_35 xciX7 dX7_takeNode_1 rfl rfl rfl (Nat.le_of_ble_eq_true rfl) ?_
  refine (b_seen G l ad F R d σ t f ht).mono (fun x9 σ9' hp => ?_)
  obtain ⟨rfl, e9⟩ := hp
  intro M N S hM
  rw [e9] at hM; clear e9 σ9'
  show xX G l _ (d + 1) _ _ _ _ M N S
  refine x_istore_n (q := 5) (ls' := [(0, _), (1, _), (2, _), (3, _)]) [1, 2, 3, 0] dX7_takeNode_4 rfl (by decide) rfl ?_
  refine x_iload_n (q := 6) dX7_takeNode_5 rfl rfl ?_
  refine xn_bipush (q := 8) 46 dX7_takeNode_6 rfl (by decide) ?_
  refine xi_icmp_eq (q := 11) 31 dX7_takeNode_8 (by decide) rfl rfl (nI_i _) (by omega) (by omega) (by omega) (by omega) (fun hc8 => ?_) (fun hc8 => ?_)
  · exact s31 M N S (decide_eq_true (by omega)) hM
  · refine x_iload_n (q := 12) dX7_takeNode_11 rfl rfl ?_
    refine xn_bipush (q := 14) 83 dX7_takeNode_12 rfl (by decide) ?_
    refine xi_icmp_eq (q := 17) 31 dX7_takeNode_14 (by decide) rfl rfl (nI_i _) (by omega) (by omega) (by omega) (by omega) (fun hc14 => ?_) (fun hc14 => ?_)
    · exact s31 M N S (decide_eq_true (by omega)) hM
    · refine x_iload_n (q := 18) dX7_takeNode_17 rfl rfl ?_
      refine xn_bipush (q := 20) 84 dX7_takeNode_18 rfl (by decide) ?_
      refine xi_icmp_eq (q := 23) 31 dX7_takeNode_20 (by decide) rfl rfl (nI_i _) (by omega) (by omega) (by omega) (by omega) (fun hc20 => ?_) (fun hc20 => ?_)
      · exact s31 M N S (decide_eq_true (by omega)) hM
      · refine x_iload_n (q := 24) dX7_takeNode_23 rfl rfl ?_
        refine xn_bipush (q := 26) 70 dX7_takeNode_24 rfl (by decide) ?_
        refine xi_icmp_eq (q := 29) 31 dX7_takeNode_26 (by decide) rfl rfl (nI_i _) (by omega) (by omega) (by omega) (by omega) (fun hc26 => ?_) (fun hc26 => ?_)
        · exact s31 M N S (decide_eq_true (by omega)) hM
        · refine xn_iconst (q := 30) 0 dX7_takeNode_29 rfl (by decide) ?_
          have hnd : isND (sn t f) = false := decide_eq_false (by omega)
          exact x_zret rfl (by decide) dX7_takeNode_30 (c_ret hM ⟨by rw [hnd]; rfl, kp.rfl', by unfold rdN; rw [if_neg (fun h => by rw [hnd] at h; exact absurd h.2 (by decide))]; exact ht, fun h => by rw [hnd] at h; exact absurd h (by decide)⟩)

/-- the parts of a beam as they are read -/
abbrev rbA (t : List Nat) (f : Nat) : Nat × Bool := rdH t f false
abbrev rbB (t : List Nat) (f : Nat) : Nat × Nat × Bool := rdU t (rbA t f).1 false
abbrev rbX (t : List Nat) (f : Nat) : Nat × Bool := rdX t (rbB t f).2.1 (rbB t f).2.2
abbrev rbE (t : List Nat) (f : Nat) : Nat × Nat × Bool := rdU t (rbX t f).1 (rbX t f).2
abbrev rbH (t : List Nat) (f : Nat) : Nat × Bool := rdH t (rbE t f).2.1 (rbE t f).2.2
theorem rdH_f {t : List Nat} {f : Nat} : rdH t f false = (if sn t f = 104 then f + 1 else f, decide (sn t f = 104)) := by
  unfold rdH
  by_cases e : sn t f = 104
  · rw [if_pos ⟨rfl, e⟩, if_pos e, decide_eq_true e]
  · rw [if_neg (fun h => e h.2), if_neg e, decide_eq_false e]
theorem rdX_f {t : List Nat} {f : Nat} : rdX t f false = (if sn t f = 120 then f + 1 else f, !decide (sn t f = 120)) := by
  unfold rdX
  by_cases e : sn t f = 120
  · rw [if_pos ⟨rfl, e⟩, if_pos e, decide_eq_true e]; rfl
  · rw [if_neg (fun h => e h.2), if_neg e, decide_eq_false e]; rfl
theorem rdU_t {t : List Nat} {f : Nat} : rdU t f true = (0, f, true) := by unfold rdU; rw [if_neg (fun h => absurd h.1 (by decide))]
theorem rdX_t {t : List Nat} {f : Nat} : rdX t f true = (f, true) := by unfold rdX; rw [if_neg (fun h => absurd h.1 (by decide))]
theorem rdH_t {t : List Nat} {f : Nat} : rdH t f true = (f, false) := by unfold rdH; rw [if_neg (fun h => absurd h.1 (by decide))]
theorem rdN_t {t : List Nat} {f : Nat} : rdN t f true = (f, true) := by unfold rdN; rw [if_neg (fun h => absurd h.1 (by decide))]
theorem rdU_v {t : List Nat} {f : Nat} (h : (rdU t f false).2.2 = false) : 1 ≤ (rdU t f false).1 ∧ (rdU t f false).1 ≤ 12 := (rdU_w h).2

theorem ub_lt {t : List Nat} {f : Nat} : (if (rdU t f false).2.2 = true then 0 else (rdU t f false).1) < 2 ^ 31 := by
  by_cases h9 : (rdU t f false).2.2 = true
  · rw [if_pos h9]; decide
  · rw [if_neg h9]
    have := rdU_v (t := t) (f := f) (by cases h : (rdU t f false).2.2 with | false => rfl | true => exact absurd h h9)
    omega

set_option maxRecDepth 100000 in
set_option maxHeartbeats 4000000 in
theorem b_takeBeam (G : xG) (l : Launch) (ad : Nat → Nat) (F : xM) (R : Nat × Nat) (d : Nat) (σ : cZ) (t : List Nat) (f k : Nat) (ht : Tf σ t f) (hk : k < 3) : cC G l ad F R YX7_takeBeam (d + 2) [.ref (ad 3), .ref (ad 2), .int (nI k)] σ (fun r σ' => r = some (.int (bI (!(rbE t f).2.2))) ∧ kp [3, 20, 21, 22] σ σ' ∧ Tf σ' t (rbH t f).1 ∧ ((rbE t f).2.2 = false → (σ' 20).2.1 = vp_updL (σ 20).2.1 k (lN (rbB t f).1) ∧ (σ' 21).2.1 = vp_updL (σ 21).2.1 k (lN (rbE t f).1) ∧ (σ' 22).1 = upd (upd (σ 22).1 (2 * k) (bI (rbA t f).2)) (2 * k + 1) (bI (rbH t f).2))) := by
  have hA1 : (rbA t f).1 = if sn t f = 104 then f + 1 else f := by unfold rbA; rw [rdH_f]
  have hA2 : (rbA t f).2 = decide (sn t f = 104) := by unfold rbA; rw [rdH_f]
  refine cC.of (ls := [(0, .ref (ad 3)), (1, .ref (ad 2)), (2, .int (nI k))]) (by decide) (Nat.le_of_ble_eq_true rfl) rfl fun M N S hM => ?_

  refine x_aload_n (q := 1) dX7_takeBeam_0 rfl rfl ?_
  refine c_get (q := 4) (k := 2) (f := 2) hM rfl xclX1 fwX7_46 (by decide) dX7_takeBeam_1 rfl rfl ?_
  refine xn_iconst (q := 5) 2 dX7_takeBeam_4 rfl (by decide) ?_
  refine x_iload_n (q := 6) dX7_takeBeam_5 rfl rfl ?_
  refine xn_imul (q := 7) dX7_takeBeam_6 rfl ?_
  refine x_aload_n (q := 8) dX7_takeBeam_7 rfl rfl ?_
  refine xn_bipush (q := 10) 104 dX7_takeBeam_8 rfl (by decide) ?_
  refine c_call (q := 13) (k := 3) (As := [_]) hM rfl imX7_takeSign ivX7_takeSign ilX7_takeSign mwX7_49 xciX7 dX7_takeBeam_10 rfl rfl rfl (Nat.le_of_ble_eq_true rfl) ?_
  refine (b_takeSign G l ad F R d σ t f 104 ht (by decide) (by decide)).mono (fun x9 σ10 hp => ?_)
  obtain ⟨rfl, k10, t10⟩ := hp
  intro M N S hM
  show xX G l _ (d + 2) _ _ _ _ M N S
  refine c_zast (q := 14) (k := 22) (n := 6) hM (by decide) (fun _ => rfl) (by decide) dX7_takeBeam_13 rfl (by omega) (bI_v _) (fun M σ13 a13 e13 b13 hM => ?_)
  refine x_aload_n (q := 15) dX7_takeBeam_14 rfl rfl ?_
  refine c_get (q := 18) (k := 2) (f := 0) hM rfl xclX1 fwX7_53 (by decide) dX7_takeBeam_15 rfl rfl ?_
  refine x_iload_n (q := 19) dX7_takeBeam_18 rfl rfl ?_
  refine x_aload_n (q := 20) dX7_takeBeam_19 rfl rfl ?_
  refine c_call (q := 23) (k := 3) (As := []) hM rfl imX7_takeNumber ivX7_takeNumber ilX7_takeNumber mwX7_57 xciX7 dX7_takeBeam_20 rfl rfl rfl (Nat.le_of_ble_eq_true rfl) ?_
  have t13 : Tf σ13 t (rbA t f).1 := by rw [hA1]; exact t10.of_kp a13 (by decide) (by decide)
  refine (b_takeNumber G l ad F R d σ13 t (rbA t f).1 t13).mono (fun x9 σ20 hp => ?_)
  obtain ⟨rfl, k20, t20⟩ := hp
  intro M N S hM
  show xX G l _ (d + 2) _ _ _ _ M N S
  have hub : (if (rbB t f).2.2 = true then 0 else (rbB t f).1) < 2 ^ 31 := ub_lt
  refine xn_i2l (q := 24) dX7_takeBeam_23 rfl hub ?_
  refine c_last (q := 25) (k := 20) (n := 3) hM (by decide) (fun _ => rfl) (by decide) dX7_takeBeam_24 rfl (by omega) (fun M σ24 a24 e24 b24 hM => ?_)
  have kz24 : kp [3, 20, 21, 22] σ σ24 := (k10.mono (by decide)).trans ((a13.mono (by decide)).trans ((k20.mono (by decide)).trans (a24.mono (by decide))))
  have ht24 : Tf σ24 t (rbB t f).2.1 := t20.of_kp a24 (by decide) (by decide)
  have er : (σ24 20).2.1 k = lN (if (rbB t f).2.2 = true then 0 else (rbB t f).1) := by rw [e24]; simp [vp_updL]
  refine x_aload_n (q := 26) dX7_takeBeam_25 rfl rfl ?_
  refine c_get (q := 29) (k := 2) (f := 0) hM rfl xclX1 fwX7_53 (by decide) dX7_takeBeam_26 rfl rfl ?_
  refine x_iload_n (q := 30) dX7_takeBeam_29 rfl rfl ?_
  refine c_lald (q := 31) (k := 20) (n := 3) hM rfl (by decide) (by decide) dX7_takeBeam_30 rfl (by omega) ?_
  refine x_topl (y := lN (if (rbB t f).2.2 = true then 0 else (rbB t f).1)) (by exact er) ?_
  refine xn_lconst (q := 32) 0 dX7_takeBeam_31 rfl (by decide) ?_
  refine xn_lcmp_eq (q1 := 33) (q := 36) 45 dX7_takeBeam_32 rfl dX7_takeBeam_33 (by decide) rfl (by omega) (by omega) (fun hc32 => ?_) (fun hc32 => ?_)
  · have hbb : (rbB t f).2.2 = true := by cases h : (rbB t f).2.2 with | true => rfl | false => have h9 : 1 ≤ (rbB t f).1 ∧ (rbB t f).1 ≤ 12 := rdU_v h; rw [h, if_neg (by decide)] at hc32; omega
    refine xn_iconst (q := 46) 0 dX7_takeBeam_45 rfl (by decide) ?_
    have hx : rbX t f = ((rbB t f).2.1, true) := by unfold rbX; rw [hbb]; exact rdX_t
    have he : rbE t f = ((0 : Nat), (rbB t f).2.1, true) := by unfold rbE; rw [hx]; exact rdU_t
    have hh : rbH t f = ((rbB t f).2.1, false) := by unfold rbH; rw [he]; exact rdH_t
    exact x_zret rfl (by decide) dX7_takeBeam_46 (c_ret hM ⟨by rw [he]; rfl, kz24, by rw [hh]; exact ht24, fun h => by rw [he] at h; exact absurd (show true = false from h) (by decide)⟩)
  · have hbb : (rbB t f).2.2 = false := by cases h : (rbB t f).2.2 with | false => rfl | true => rw [h] at hc32; exact absurd rfl hc32
    rw [if_neg (by rw [hbb]; decide)] at e24
    refine x_aload_n (q := 37) dX7_takeBeam_36 rfl rfl ?_
    refine xn_bipush (q := 39) 120 dX7_takeBeam_37 rfl (by decide) ?_
    refine c_call (q := 42) (k := 3) (As := [_]) hM rfl imX7_takeSign ivX7_takeSign ilX7_takeSign mwX7_49 xciX7 dX7_takeBeam_39 rfl rfl rfl (Nat.le_of_ble_eq_true rfl) ?_
    refine (b_takeSign G l ad F R d σ24 t (rbB t f).2.1 120 ht24 (by decide) (by decide)).mono (fun x9 σ39 hp => ?_)
    obtain ⟨rfl, k39, t39⟩ := hp
    intro M N S hM
    show xX G l _ (d + 2) _ _ _ _ M N S
    refine x_if_ne (q := 45) 47 dX7_takeBeam_42 (by decide) rfl (fun hc42 => ?_) (fun hc42 => ?_)
    · have hpx : sn t (rbB t f).2.1 = 120 := of_decide_eq_true (bI_ne.mp hc42)
      rw [if_pos hpx] at t39
      have hx : rbX t f = ((rbB t f).2.1 + 1, false) := by unfold rbX; rw [hbb, rdX_f, if_pos hpx, decide_eq_true hpx]; rfl
      have hE : rdU t ((rbB t f).2.1 + 1) false = rbE t f := by unfold rbE; rw [hx]
      refine x_aload_n (q := 48) dX7_takeBeam_47 rfl rfl ?_
      refine c_get (q := 51) (k := 2) (f := 1) hM rfl xclX1 fwX7_60 (by decide) dX7_takeBeam_48 rfl rfl ?_
      refine x_iload_n (q := 52) dX7_takeBeam_51 rfl rfl ?_
      refine x_aload_n (q := 53) dX7_takeBeam_52 rfl rfl ?_
      refine c_call (q := 56) (k := 3) (As := []) hM rfl imX7_takeNumber ivX7_takeNumber ilX7_takeNumber mwX7_57 xciX7 dX7_takeBeam_53 rfl rfl rfl (Nat.le_of_ble_eq_true rfl) ?_
      refine (b_takeNumber G l ad F R d σ39 t ((rbB t f).2.1 + 1) t39).mono (fun x9 σ53 hp => ?_)
      obtain ⟨rfl, k53, t53⟩ := hp
      intro M N S hM
      show xX G l _ (d + 2) _ _ _ _ M N S
      have hue : (if (rbE t f).2.2 = true then 0 else (rbE t f).1) < 2 ^ 31 := by rw [← hE]; exact ub_lt
      rw [hE] at t53 ⊢
      refine xn_i2l (q := 57) dX7_takeBeam_56 rfl hue ?_
      refine c_last (q := 58) (k := 21) (n := 3) hM (by decide) (fun _ => rfl) (by decide) dX7_takeBeam_57 rfl (by omega) (fun M σ57 a57 e57 b57 hM => ?_)
      have kz57 : kp [3, 20, 21, 22] σ σ57 := kz24.trans ((k39.mono (by decide)).trans ((k53.mono (by decide)).trans (a57.mono (by decide))))
      have ht57 : Tf σ57 t (rbE t f).2.1 := t53.of_kp a57 (by decide) (by decide)
      have er2 : (σ57 21).2.1 k = lN (if (rbE t f).2.2 = true then 0 else (rbE t f).1) := by rw [e57]; simp [vp_updL]
      refine x_aload_n (q := 59) dX7_takeBeam_58 rfl rfl ?_
      refine c_get (q := 62) (k := 2) (f := 1) hM rfl xclX1 fwX7_60 (by decide) dX7_takeBeam_59 rfl rfl ?_
      refine x_iload_n (q := 63) dX7_takeBeam_62 rfl rfl ?_
      refine c_lald (q := 64) (k := 21) (n := 3) hM rfl (by decide) (by decide) dX7_takeBeam_63 rfl (by omega) ?_
      refine x_topl (y := lN (if (rbE t f).2.2 = true then 0 else (rbE t f).1)) (by exact er2) ?_
      refine xn_lconst (q := 65) 0 dX7_takeBeam_64 rfl (by decide) ?_
      refine xn_lcmp_ne (q1 := 66) (q := 69) 71 dX7_takeBeam_65 rfl dX7_takeBeam_66 (by decide) rfl (by omega) (by omega) (fun hc65 => ?_) (fun hc65 => ?_)
      · have hee : (rbE t f).2.2 = false := by cases h : (rbE t f).2.2 with | false => rfl | true => rw [h] at hc65; exact absurd rfl hc65
        rw [if_neg (by rw [hee]; decide)] at e57
        refine x_aload_n (q := 72) dX7_takeBeam_71 rfl rfl ?_
        refine c_get (q := 75) (k := 2) (f := 2) hM rfl xclX1 fwX7_46 (by decide) dX7_takeBeam_72 rfl rfl ?_
        refine xn_iconst (q := 76) 2 dX7_takeBeam_75 rfl (by decide) ?_
        refine x_iload_n (q := 77) dX7_takeBeam_76 rfl rfl ?_
        refine xn_imul (q := 78) dX7_takeBeam_77 rfl ?_
        refine xn_iconst (q := 79) 1 dX7_takeBeam_78 rfl (by decide) ?_
        refine xn_iadd (q := 80) dX7_takeBeam_79 rfl ?_
        refine x_aload_n (q := 81) dX7_takeBeam_80 rfl rfl ?_
        refine xn_bipush (q := 83) 104 dX7_takeBeam_81 rfl (by decide) ?_
        refine c_call (q := 86) (k := 3) (As := [_]) hM rfl imX7_takeSign ivX7_takeSign ilX7_takeSign mwX7_49 xciX7 dX7_takeBeam_83 rfl rfl rfl (Nat.le_of_ble_eq_true rfl) ?_
        refine (b_takeSign G l ad F R d σ57 t (rbE t f).2.1 104 ht57 (by decide) (by decide)).mono (fun x9 σ83 hp => ?_)
        obtain ⟨rfl, k83, t83⟩ := hp
        intro M N S hM
        show xX G l _ (d + 2) _ _ _ _ M N S
        refine c_zast (q := 87) (k := 22) (n := 6) hM (by decide) (fun _ => rfl) (by decide) dX7_takeBeam_86 rfl (by omega) (bI_v _) (fun M σ86 a86 e86 b86 hM => ?_)
        refine xn_iconst (q := 88) 1 dX7_takeBeam_87 rfl (by decide) ?_
        have hh : rbH t f = (if sn t (rbE t f).2.1 = 104 then (rbE t f).2.1 + 1 else (rbE t f).2.1, decide (sn t (rbE t f).2.1 = 104)) := by unfold rbH; rw [hee]; exact rdH_f
        exact x_zret rfl (by decide) dX7_takeBeam_88 (c_ret hM ⟨by rw [hee]; rfl, kz57.trans ((k83.mono (by decide)).trans (a86.mono (by decide))), by rw [hh]; exact t83.of_kp a86 (by decide) (by decide), fun _ => ⟨by rw [a86 20 (by decide), k83 20 (by decide), a57 20 (by decide), k53 20 (by decide), k39 20 (by decide), e24, k20 20 (by decide), a13 20 (by decide), k10 20 (by decide)], by rw [a86 21 (by decide), k83 21 (by decide), e57, k53 21 (by decide), k39 21 (by decide), a24 21 (by decide), k20 21 (by decide), a13 21 (by decide), k10 21 (by decide)], by rw [e86, k83 22 (by decide), a57 22 (by decide), k53 22 (by decide), k39 22 (by decide), a24 22 (by decide), k20 22 (by decide), e13, k10 22 (by decide), hA2, hh]⟩⟩)
      · have hee : (rbE t f).2.2 = true := by cases h : (rbE t f).2.2 with | true => rfl | false => have h9 := rdU_v (t := t) (f := (rbB t f).2.1 + 1) (by rw [hE]; exact h); rw [hE] at h9; rw [h, if_neg (by decide)] at hc65; omega
        refine xn_iconst (q := 70) 0 dX7_takeBeam_69 rfl (by decide) ?_
        have hh : rbH t f = ((rbE t f).2.1, false) := by unfold rbH; rw [hee]; exact rdH_t
        exact x_zret rfl (by decide) dX7_takeBeam_70 (c_ret hM ⟨by rw [hee]; rfl, kz57, by rw [hh]; exact ht57, fun h => by rw [hee] at h; exact absurd h (by decide)⟩)
    · have hnx : ¬ sn t (rbB t f).2.1 = 120 := of_decide_eq_false (bI_eq.mp hc42)
      refine xn_iconst (q := 46) 0 dX7_takeBeam_45 rfl (by decide) ?_
      have hx : rbX t f = ((rbB t f).2.1, true) := by unfold rbX; rw [hbb, rdX_f, if_neg hnx, decide_eq_false hnx]; rfl
      have he : rbE t f = ((0 : Nat), (rbB t f).2.1, true) := by unfold rbE; rw [hx]; exact rdU_t
      have hh : rbH t f = ((rbB t f).2.1, false) := by unfold rbH; rw [he]; exact rdH_t
      exact x_zret rfl (by decide) dX7_takeBeam_46 (c_ret hM ⟨by rw [he]; rfl, kz24.trans (k39.mono (by decide)), by rw [hh]; rw [if_neg hnx] at t39; exact t39, fun h => by rw [he] at h; exact absurd (show true = false from h) (by decide)⟩)

end XB5
