section XB4
def Tx (σ : cZ) (t : List Nat) : Prop := t.length ≤ 50 ∧ (σ 3).1 1 = nI t.length ∧ (∀ i, i < t.length → (σ 26).1 i = nI (t.getD i 0)) ∧ ∀ i, i < t.length → 32 ≤ t.getD i 0 ∧ t.getD i 0 ≤ 126
def Tf (σ : cZ) (t : List Nat) (f : Nat) : Prop := Tx σ t ∧ (σ 3).1 2 = nI f ∧ f ≤ t.length
def snI (t : List Nat) (f : Nat) : Int := if f < t.length then (t.getD f 0 : Int) else -1
theorem Tx.of_kp {ks : List Nat} {σ σ' : cZ} {t : List Nat} (h : Tx σ t) (k : kp ks σ σ') (h1 : 3 ∉ ks) (h2 : 26 ∉ ks) : Tx σ' t := by
  unfold Tx at *
  rw [k 3 h1, k 26 h2]
  exact h
theorem Tf.of_kp {ks : List Nat} {σ σ' : cZ} {t : List Nat} {f : Nat} (h : Tf σ t f) (k : kp ks σ σ') (h1 : 3 ∉ ks) (h2 : 26 ∉ ks) : Tf σ' t f := ⟨h.1.of_kp k h1 h2, by rw [k 3 h1]; exact h.2.1, h.2.2⟩
theorem Tf.put {σ σ' : cZ} {t : List Nat} {f g : Nat} (h : Tf σ t f) (k : kp [3] σ σ') (e : (σ' 3).1 = mu (σ 3).1 2 (nI g)) (hg : g ≤ t.length) : Tf σ' t g := by
  refine ⟨⟨h.1.1, by rw [e, mu_n (by decide)]; exact h.1.2.1, fun i hi => by rw [k 26 (by decide)]; exact h.1.2.2.1 i hi, h.1.2.2.2⟩, by rw [e, mu_s], hg⟩
theorem snI_or {σ : cZ} {t : List Nat} (h : Tx σ t) (f : Nat) : (snI t f = -1 ∧ sn t f = 0 ∧ t.length ≤ f) ∨ (snI t f = (sn t f : Int) ∧ 32 ≤ sn t f ∧ sn t f ≤ 126 ∧ f < t.length) := by
  unfold snI sn
  by_cases e : f < t.length
  · rw [if_pos e, if_pos e]; have := h.2.2.2 f e; omega
  · rw [if_neg e, if_neg e]; omega

set_option maxRecDepth 100000 in
set_option maxHeartbeats 4000000 in
theorem b_collect (G : xG) (l : Launch) (ad : Nat → Nat) (F : xM) (R : Nat × Nat) (d : Nat) (σ : cZ) (t : List Nat) (ht : Tx σ t) (u : Int) (h1 : -2147483648 ≤ u) (h2 : u < 2147483648) : cC G l ad F R YX7_collect d [.ref (ad 3), .int (iI u)] σ (fun r σ' => kp [3, 26] σ σ' ∧ (if 32 ≤ u ∧ u ≤ 126 ∧ t.length < 50 then r = some (.int (bI true)) ∧ Tx σ' (t ++ [u.toNat]) else r = some (.int (bI false)) ∧ σ' = σ)) := by
  have hl := ht.1
  have hz := ht.2.1
  refine cC.of (ls := [(0, .ref (ad 3)), (1, .int (iI u))]) (by decide) (Nat.le_of_ble_eq_true rfl) rfl fun M N S hM => ?_

  refine x_iload_n (q := 1) dX7_collect_0 rfl rfl ?_
  refine xn_bipush (q := 3) 32 dX7_collect_1 rfl (by decide) ?_
  refine xi_icmp_lt (q := 6) 21 dX7_collect_3 (by decide) rfl rfl (nI_i _) (by omega) (by omega) (by omega) (by omega) (fun hc3 => ?_) (fun hc3 => ?_)
  · refine xn_iconst (q := 22) 0 dX7_collect_21 rfl (by decide) ?_
    exact x_zret rfl (by decide) dX7_collect_22 (c_ret hM ⟨kp.rfl', by rw [if_neg (by omega)]; exact ⟨rfl, rfl⟩⟩)
  · refine x_iload_n (q := 7) dX7_collect_6 rfl rfl ?_
    refine xn_bipush (q := 9) 126 dX7_collect_7 rfl (by decide) ?_
    refine xi_icmp_gt (q := 12) 21 dX7_collect_9 (by decide) rfl rfl (nI_i _) (by omega) (by omega) (by omega) (by omega) (fun hc9 => ?_) (fun hc9 => ?_)
    · refine xn_iconst (q := 22) 0 dX7_collect_21 rfl (by decide) ?_
      exact x_zret rfl (by decide) dX7_collect_22 (c_ret hM ⟨kp.rfl', by rw [if_neg (by omega)]; exact ⟨rfl, rfl⟩⟩)
    · refine x_aload_n (q := 13) dX7_collect_12 rfl rfl ?_
      refine c_get (q := 16) (k := 3) (f := 1) hM rfl xclX7 fwX7_13 (by decide) dX7_collect_13 rfl rfl ?_
      refine x_topi (y := nI t.length) (by exact hz) ?_
      refine xn_bipush (q := 18) 50 dX7_collect_16 rfl (by decide) ?_
      refine xn_icmp_lt (q := 21) 23 dX7_collect_18 (by decide) rfl (by omega) (by omega) (fun hc18 => ?_) (fun hc18 => ?_)
      · refine x_aload_n (q := 24) dX7_collect_23 rfl rfl ?_
        refine c_get (q := 27) (k := 3) (f := 0) hM rfl xclX7 fwX7_9 (by decide) dX7_collect_24 rfl rfl ?_
        refine x_aload_n (q := 28) dX7_collect_27 rfl rfl ?_
        refine c_get (q := 31) (k := 3) (f := 1) hM rfl xclX7 fwX7_13 (by decide) dX7_collect_28 rfl rfl ?_
        refine x_topi (y := nI t.length) (by exact hz) ?_
        refine x_iload_n (q := 32) dX7_collect_31 rfl rfl ?_
        refine x_topi (y := nI u.toNat) (iI_nat (by omega)) ?_
        refine c_iast (q := 33) (k := 26) (n := 50) hM (by decide) (fun _ => rfl) (by decide) dX7_collect_32 rfl (by omega) (fun M σ32 a32 e32 b32 hM => ?_)
        refine x_aload_n (q := 34) dX7_collect_33 rfl rfl ?_
        refine x_dup (q := 35) dX7_collect_34 rfl rfl ?_
        refine c_get (q := 38) (k := 3) (f := 1) hM rfl xclX7 fwX7_13 (by decide) dX7_collect_35 rfl rfl ?_
        refine x_topi (y := nI t.length) (by rw [a32 3 (by decide)]; exact hz) ?_
        refine xn_iconst (q := 39) 1 dX7_collect_38 rfl (by decide) ?_
        refine xn_iadd (q := 40) dX7_collect_39 rfl ?_
        refine c_puti (q := 43) (k := 3) (f := 1) hM rfl rfl xclX7 fwX7_13 (by decide) rfl rfl (Nat.le_of_ble_eq_true rfl) dX7_collect_40 rfl rfl rfl (fun M σ40 a40 e40 b40 hM => ?_)
        refine xn_iconst (q := 44) 1 dX7_collect_43 rfl (by decide) ?_
        refine x_zret rfl (by decide) dX7_collect_44 (c_ret hM ⟨(a32.mono (by decide)).trans (a40.mono (by decide)), ?_⟩)
        rw [if_pos (by omega)]
        refine ⟨rfl, by rw [List.length_append]; show t.length + 1 ≤ 50; omega, by rw [e40, mu_s, List.length_append]; rfl, fun i hi => ?_, fun i hi => ?_⟩
        · rw [a40 26 (by decide), e32]
          rw [List.length_append] at hi
          by_cases ei : i = t.length
          · rw [ei, getD_r]; simp only [upd, if_true]
          · rw [getD_l (show i < t.length by have : [u.toNat].length = 1 := rfl; omega)]; simp only [upd, if_neg ei]; exact ht.2.2.1 i (by have : [u.toNat].length = 1 := rfl; omega)
        · rw [List.length_append] at hi
          by_cases ei : i = t.length
          · rw [ei, getD_r]; omega
          · rw [getD_l (show i < t.length by have : [u.toNat].length = 1 := rfl; omega)]; exact ht.2.2.2 i (by have : [u.toNat].length = 1 := rfl; omega)
      · refine xn_iconst (q := 22) 0 dX7_collect_21 rfl (by decide) ?_
        exact x_zret rfl (by decide) dX7_collect_22 (c_ret hM ⟨kp.rfl', by rw [if_neg (by omega)]; exact ⟨rfl, rfl⟩⟩)

set_option maxRecDepth 100000 in
set_option maxHeartbeats 4000000 in
theorem b_empty (G : xG) (l : Launch) (ad : Nat → Nat) (F : xM) (R : Nat × Nat) (d : Nat) (σ : cZ) (t : List Nat) (ht : Tx σ t) : cC G l ad F R YX7_empty d [.ref (ad 3)] σ (fun r σ' => r = none ∧ kp [3] σ σ' ∧ Tx σ' []) := by
  refine cC.of (ls := [(0, .ref (ad 3))]) (by decide) (Nat.le_of_ble_eq_true rfl) rfl fun M N S hM => ?_

  refine x_aload_n (q := 1) dX7_empty_0 rfl rfl ?_
  refine xn_iconst (q := 2) 0 dX7_empty_1 rfl (by decide) ?_
  refine c_puti (q := 5) (k := 3) (f := 1) hM rfl rfl xclX7 fwX7_13 (by decide) rfl rfl (Nat.le_of_ble_eq_true rfl) dX7_empty_2 rfl rfl rfl (fun M σ2 a2 e2 b2 hM => ?_)
  exact x_vret rfl dX7_empty_5 (c_ret hM ⟨rfl, a2, by decide, by rw [e2, mu_s]; rfl, fun i hi => absurd hi (Nat.not_lt_zero i), fun i hi => absurd hi (Nat.not_lt_zero i)⟩)

set_option maxRecDepth 100000 in
set_option maxHeartbeats 4000000 in
theorem b_seen (G : xG) (l : Launch) (ad : Nat → Nat) (F : xM) (R : Nat × Nat) (d : Nat) (σ : cZ) (t : List Nat) (f : Nat) (ht : Tf σ t f) : cC G l ad F R YX7_seen d [.ref (ad 3)] σ (fun r σ' => r = some (.int (iI (snI t f))) ∧ σ' = σ) := by
  obtain ⟨⟨h1, h2, h3, h4⟩, h5, h6⟩ := ht
  refine cC.of (ls := [(0, .ref (ad 3))]) (by decide) (Nat.le_of_ble_eq_true rfl) rfl fun M N S hM => ?_

  refine x_aload_n (q := 1) dX7_seen_0 rfl rfl ?_
  refine c_get (q := 4) (k := 3) (f := 2) hM rfl xclX7 fwX7_17 (by decide) dX7_seen_1 rfl rfl ?_
  refine x_topi (y := nI f) (by exact h5) ?_
  refine xn_if_lt (q := 7) 30 dX7_seen_4 (by decide) rfl (by omega) (fun hc4 => absurd hc4 (by omega)) (fun hc4 => ?_)
  refine x_aload_n (q := 8) dX7_seen_7 rfl rfl ?_
  refine c_get (q := 11) (k := 3) (f := 2) hM rfl xclX7 fwX7_17 (by decide) dX7_seen_8 rfl rfl ?_
  refine x_topi (y := nI f) (by exact h5) ?_
  refine x_aload_n (q := 12) dX7_seen_11 rfl rfl ?_
  refine c_get (q := 15) (k := 3) (f := 1) hM rfl xclX7 fwX7_13 (by decide) dX7_seen_12 rfl rfl ?_
  refine x_topi (y := nI t.length) (by exact h2) ?_
  refine xn_icmp_ge (q := 18) 30 dX7_seen_15 (by decide) rfl (by omega) (by omega) (fun hc15 => ?_) (fun hc15 => ?_)
  · refine x_iconst (q := 31) (-1) dX7_seen_30 rfl (by decide) ?_
    exact x_iret rfl dX7_seen_31 (c_ret hM ⟨by unfold snI; rw [if_neg (by omega)]; rfl, rfl⟩)
  · refine x_aload_n (q := 19) dX7_seen_18 rfl rfl ?_
    refine c_get (q := 22) (k := 3) (f := 0) hM rfl xclX7 fwX7_9 (by decide) dX7_seen_19 rfl rfl ?_
    refine x_aload_n (q := 23) dX7_seen_22 rfl rfl ?_
    refine c_get (q := 26) (k := 3) (f := 2) hM rfl xclX7 fwX7_17 (by decide) dX7_seen_23 rfl rfl ?_
    refine x_topi (y := nI f) (by exact h5) ?_
    refine c_iald (q := 27) (k := 26) (n := 50) hM rfl (by decide) (by decide) dX7_seen_26 rfl (by omega) ?_
    refine x_topi (y := nI (t.getD f 0)) (by exact h3 f (by omega)) ?_
    refine x_goto 31 dX7_seen_27 (by decide) ?_
    exact x_iret rfl dX7_seen_31 (c_ret hM ⟨by unfold snI; rw [if_pos (by omega), ← nI_i], rfl⟩)

set_option maxRecDepth 100000 in
set_option maxHeartbeats 4000000 in
theorem b_takeSign (G : xG) (l : Launch) (ad : Nat → Nat) (F : xM) (R : Nat × Nat) (d : Nat) (σ : cZ) (t : List Nat) (f k : Nat) (ht : Tf σ t f) (hk : 1 ≤ k) (hk2 : k < 2 ^ 31) : cC G l ad F R YX7_takeSign (d + 1) [.ref (ad 3), .int (nI k)] σ (fun r σ' => r = some (.int (bI (decide (sn t f = k)))) ∧ kp [3] σ σ' ∧ Tf σ' t (if sn t f = k then f + 1 else f)) := by
  have hs := snI_or ht.1 f
  refine cC.of (ls := [(0, .ref (ad 3)), (1, .int (nI k))]) (by decide) (Nat.le_of_ble_eq_true rfl) rfl fun M N S hM => ?_

  refine x_aload_n (q := 1) dX7_takeSign_0 rfl rfl ?_
  refine c_call (q := 4) (k := 3) (As := []) hM rfl imX7_seen ivX7_seen ilX7_seen mwX7_35 xciX7 dX7_takeSign_1 rfl rfl rfl (Nat.le_of_ble_eq_true rfl) ?_
  refine (b_seen G l ad F R d σ t f ht).mono (fun x9 σ9' hp => ?_)
  obtain ⟨rfl, e9⟩ := hp
  intro M N S hM
  rw [e9] at hM; clear e9 σ9'
  show xX G l _ (d + 1) _ _ _ _ M N S
  refine x_iload_n (q := 5) dX7_takeSign_4 rfl rfl ?_
  refine xi_icmp_eq (q := 8) 10 dX7_takeSign_5 (by decide) rfl rfl (nI_i _) (by omega) (by omega) (by omega) (by omega) (fun hc5 => ?_) (fun hc5 => ?_)
  · refine x_aload_n (q := 11) dX7_takeSign_10 rfl rfl ?_
    refine x_dup (q := 12) dX7_takeSign_11 rfl rfl ?_
    refine c_get (q := 15) (k := 3) (f := 2) hM rfl xclX7 fwX7_17 (by decide) dX7_takeSign_12 rfl rfl ?_
    refine x_topi (y := nI f) (by exact ht.2.1) ?_
    refine xn_iconst (q := 16) 1 dX7_takeSign_15 rfl (by decide) ?_
    refine xn_iadd (q := 17) dX7_takeSign_16 rfl ?_
    refine c_puti (q := 20) (k := 3) (f := 2) hM rfl rfl xclX7 fwX7_17 (by decide) rfl rfl (Nat.le_of_ble_eq_true rfl) dX7_takeSign_17 rfl rfl rfl (fun M σ17 a17 e17 b17 hM => ?_)
    refine xn_iconst (q := 21) 1 dX7_takeSign_20 rfl (by decide) ?_
    exact x_zret rfl (by decide) dX7_takeSign_21 (c_ret hM ⟨by rw [decide_eq_true (by omega)]; rfl, a17, by rw [if_pos (by omega)]; exact ht.put a17 e17 (by omega)⟩)
  · refine xn_iconst (q := 9) 0 dX7_takeSign_8 rfl (by decide) ?_
    exact x_zret rfl (by decide) dX7_takeSign_9 (c_ret hM ⟨by rw [decide_eq_false (by omega)]; rfl, kp.rfl', by rw [if_neg (by omega)]; exact ht⟩)

set_option maxRecDepth 100000 in
set_option maxHeartbeats 4000000 in
theorem b_takeNumber (G : xG) (l : Launch) (ad : Nat → Nat) (F : xM) (R : Nat × Nat) (d : Nat) (σ : cZ) (t : List Nat) (f : Nat) (ht : Tf σ t f) : cC G l ad F R YX7_takeNumber (d + 1) [.ref (ad 3)] σ (fun r σ' => r = some (.int (nI (if (rdU t f false).2.2 = true then 0 else (rdU t f false).1))) ∧ kp [3] σ σ' ∧ Tf σ' t (rdU t f false).2.1) := by
  have hs := snI_or ht.1 f
  have hf := ht.2.2
  have hs2 := snI_or ht.1 (f + 1)
  refine cC.of (ls := [(0, .ref (ad 3))]) (by decide) (Nat.le_of_ble_eq_true rfl) rfl fun M N S hM => ?_

  refine x_aload_n (q := 1) dX7_takeNumber_0 rfl rfl ?_
  refine c_get (q := 4) (k := 3) (f := 2) hM rfl xclX7 fwX7_17 (by decide) dX7_takeNumber_1 rfl rfl ?_
  refine x_topi (y := nI f) (by exact ht.2.1) ?_
  refine x_istore_n (q := 5) (ls' := [(0, _), (1, _)]) [1, 0] dX7_takeNumber_4 rfl (by decide) rfl ?_
  refine x_aload_n (q := 6) dX7_takeNumber_5 rfl rfl ?_
  refine c_call (q := 9) (k := 3) (As := []) hM rfl imX7_seen ivX7_seen ilX7_seen mwX7_35 xciX7 dX7_takeNumber_6 rfl rfl rfl (Nat.le_of_ble_eq_true rfl) ?_
  refine (b_seen G l ad F R d σ t f ht).mono (fun x9 σ9' hp => ?_)
  obtain ⟨rfl, e9⟩ := hp
  intro M N S hM
  rw [e9] at hM; clear e9 σ9'
  show xX G l _ (d + 1) _ _ _ _ M N S
  refine xn_bipush (q := 11) 49 dX7_takeNumber_9 rfl (by decide) ?_
  refine xi_icmp_lt (q := 14) 23 dX7_takeNumber_11 (by decide) rfl rfl (nI_i _) (by omega) (by omega) (by omega) (by omega) (fun hc11 => ?_) (fun hc11 => ?_)
  · refine xn_iconst (q := 24) 0 dX7_takeNumber_23 rfl (by decide) ?_
    have hr : rdU t f false = (0, f, true) := by unfold rdU; rw [if_neg (fun h => by have := h.2; omega)]
    exact x_iret rfl dX7_takeNumber_24 (c_ret hM ⟨by rw [hr]; rfl, kp.rfl', by rw [hr]; exact ht⟩)
  · refine x_aload_n (q := 15) dX7_takeNumber_14 rfl rfl ?_
    refine c_call (q := 18) (k := 3) (As := []) hM rfl imX7_seen ivX7_seen ilX7_seen mwX7_35 xciX7 dX7_takeNumber_15 rfl rfl rfl (Nat.le_of_ble_eq_true rfl) ?_
    refine (b_seen G l ad F R d σ t f ht).mono (fun x9 σ9' hp => ?_)
    obtain ⟨rfl, e9⟩ := hp
    intro M N S hM
    rw [e9] at hM; clear e9 σ9'
    show xX G l _ (d + 1) _ _ _ _ M N S
    refine xn_bipush (q := 20) 57 dX7_takeNumber_18 rfl (by decide) ?_
    refine xi_icmp_le (q := 23) 25 dX7_takeNumber_20 (by decide) rfl rfl (nI_i _) (by omega) (by omega) (by omega) (by omega) (fun hc20 => ?_) (fun hc20 => ?_)
    · refine x_aload_n (q := 26) dX7_takeNumber_25 rfl rfl ?_
      refine c_call (q := 29) (k := 3) (As := []) hM rfl imX7_seen ivX7_seen ilX7_seen mwX7_35 xciX7 dX7_takeNumber_26 rfl rfl rfl (Nat.le_of_ble_eq_true rfl) ?_
      refine (b_seen G l ad F R d σ t f ht).mono (fun x9 σ9' hp => ?_)
      obtain ⟨rfl, e9⟩ := hp
      intro M N S hM
      rw [e9] at hM; clear e9 σ9'
      show xX G l _ (d + 1) _ _ _ _ M N S
      refine xn_bipush (q := 31) 48 dX7_takeNumber_29 rfl (by decide) ?_
      refine xi_isub (q := 32) dX7_takeNumber_31 rfl rfl (nI_i _) ?_
      refine x_istore_n (q := 33) (ls' := [(0, _), (1, _), (2, _)]) [1, 2, 0] dX7_takeNumber_32 rfl (by decide) rfl ?_
      refine x_aload_n (q := 34) dX7_takeNumber_33 rfl rfl ?_
      refine x_dup (q := 35) dX7_takeNumber_34 rfl rfl ?_
      refine c_get (q := 38) (k := 3) (f := 2) hM rfl xclX7 fwX7_17 (by decide) dX7_takeNumber_35 rfl rfl ?_
      refine x_topi (y := nI f) (by exact ht.2.1) ?_
      refine xn_iconst (q := 39) 1 dX7_takeNumber_38 rfl (by decide) ?_
      refine xn_iadd (q := 40) dX7_takeNumber_39 rfl ?_
      refine c_puti (q := 43) (k := 3) (f := 2) hM rfl rfl xclX7 fwX7_17 (by decide) rfl rfl (Nat.le_of_ble_eq_true rfl) dX7_takeNumber_40 rfl rfl rfl (fun M σ40 a40 e40 b40 hM => ?_)
      have ht40 : Tf σ40 t (f + 1) := ht.put a40 e40 (by omega)
      refine x_aload_n (q := 44) dX7_takeNumber_43 rfl rfl ?_
      refine c_call (q := 47) (k := 3) (As := []) hM rfl imX7_seen ivX7_seen ilX7_seen mwX7_35 xciX7 dX7_takeNumber_44 rfl rfl rfl (Nat.le_of_ble_eq_true rfl) ?_
      refine (b_seen G l ad F R d σ40 t (f + 1) ht40).mono (fun x9 σ9' hp => ?_)
      obtain ⟨rfl, e9⟩ := hp
      intro M N S hM
      rw [e9] at hM; clear e9 σ9'
      show xX G l _ (d + 1) _ _ _ _ M N S
      refine xn_bipush (q := 49) 48 dX7_takeNumber_47 rfl (by decide) ?_
      refine xi_icmp_lt (q := 52) 84 dX7_takeNumber_49 (by decide) rfl rfl (nI_i _) (by omega) (by omega) (by omega) (by omega) (fun hc49 => ?_) (fun hc49 => ?_)
      · refine x_iload_n (q := 85) dX7_takeNumber_84 rfl rfl ?_
        refine xi_i2l (q := 86) dX7_takeNumber_85 rfl rfl (by omega) (by omega) ?_
        refine xn_ldc2 (q := 89) 12 dX7_takeNumber_86 rfl cwX7_63 ?_
        refine xi_lcmp_le (q1 := 90) (q := 93) 100 dX7_takeNumber_89 rfl dX7_takeNumber_90 (by decide) rfl rfl (lN_i' _) (by omega) (by omega) (by omega) (by omega) (fun hc89 => ?_) (fun hc89 => absurd hc89 (by omega))
        refine x_iload_n (q := 101) dX7_takeNumber_100 rfl rfl ?_
        have hr : rdU t f false = (sn t f - 48, f + 1, false) := by unfold rdU; rw [if_pos ⟨rfl, by omega, by omega⟩, if_neg (fun h => by omega)]
        exact x_iret rfl dX7_takeNumber_101 (c_ret hM ⟨by rw [hr, if_neg (by simp), nI_i]; congr 3; omega, a40, by rw [hr]; exact ht40⟩)
      · refine x_aload_n (q := 53) dX7_takeNumber_52 rfl rfl ?_
        refine c_call (q := 56) (k := 3) (As := []) hM rfl imX7_seen ivX7_seen ilX7_seen mwX7_35 xciX7 dX7_takeNumber_53 rfl rfl rfl (Nat.le_of_ble_eq_true rfl) ?_
        refine (b_seen G l ad F R d σ40 t (f + 1) ht40).mono (fun x9 σ9' hp => ?_)
        obtain ⟨rfl, e9⟩ := hp
        intro M N S hM
        rw [e9] at hM; clear e9 σ9'
        show xX G l _ (d + 1) _ _ _ _ M N S
        refine xn_bipush (q := 58) 57 dX7_takeNumber_56 rfl (by decide) ?_
        refine xi_icmp_gt (q := 61) 84 dX7_takeNumber_58 (by decide) rfl rfl (nI_i _) (by omega) (by omega) (by omega) (by omega) (fun hc58 => ?_) (fun hc58 => ?_)
        · refine x_iload_n (q := 85) dX7_takeNumber_84 rfl rfl ?_
          refine xi_i2l (q := 86) dX7_takeNumber_85 rfl rfl (by omega) (by omega) ?_
          refine xn_ldc2 (q := 89) 12 dX7_takeNumber_86 rfl cwX7_63 ?_
          refine xi_lcmp_le (q1 := 90) (q := 93) 100 dX7_takeNumber_89 rfl dX7_takeNumber_90 (by decide) rfl rfl (lN_i' _) (by omega) (by omega) (by omega) (by omega) (fun hc89 => ?_) (fun hc89 => absurd hc89 (by omega))
          refine x_iload_n (q := 101) dX7_takeNumber_100 rfl rfl ?_
          have hr : rdU t f false = (sn t f - 48, f + 1, false) := by unfold rdU; rw [if_pos ⟨rfl, by omega, by omega⟩, if_neg (fun h => by omega)]
          exact x_iret rfl dX7_takeNumber_101 (c_ret hM ⟨by rw [hr, if_neg (by simp), nI_i]; congr 3; omega, a40, by rw [hr]; exact ht40⟩)
        · refine x_iload_n (q := 62) dX7_takeNumber_61 rfl rfl ?_
          refine xn_bipush (q := 64) 10 dX7_takeNumber_62 rfl (by decide) ?_
          refine xi_imul (q := 65) dX7_takeNumber_64 rfl rfl (nI_i _) ?_
          refine x_aload_n (q := 66) dX7_takeNumber_65 rfl rfl ?_
          refine c_call (q := 69) (k := 3) (As := []) hM rfl imX7_seen ivX7_seen ilX7_seen mwX7_35 xciX7 dX7_takeNumber_66 rfl rfl rfl (Nat.le_of_ble_eq_true rfl) ?_
          refine (b_seen G l ad F R d σ40 t (f + 1) ht40).mono (fun x9 σ9' hp => ?_)
          obtain ⟨rfl, e9⟩ := hp
          intro M N S hM
          rw [e9] at hM; clear e9 σ9'
          show xX G l _ (d + 1) _ _ _ _ M N S
          refine xi_iadd (q := 70) dX7_takeNumber_69 rfl rfl rfl ?_
          refine xn_bipush (q := 72) 48 dX7_takeNumber_70 rfl (by decide) ?_
          refine xi_isub (q := 73) dX7_takeNumber_72 rfl rfl (nI_i _) ?_
          refine x_istore_n (q := 74) (ls' := [(0, _), (1, _), (2, _)]) [1, 2, 0] dX7_takeNumber_73 rfl (by decide) rfl ?_
          refine x_aload_n (q := 75) dX7_takeNumber_74 rfl rfl ?_
          refine x_dup (q := 76) dX7_takeNumber_75 rfl rfl ?_
          refine c_get (q := 79) (k := 3) (f := 2) hM rfl xclX7 fwX7_17 (by decide) dX7_takeNumber_76 rfl rfl ?_
          refine x_topi (y := nI (f + 1)) (by exact ht40.2.1) ?_
          refine xn_iconst (q := 80) 1 dX7_takeNumber_79 rfl (by decide) ?_
          refine xn_iadd (q := 81) dX7_takeNumber_80 rfl ?_
          refine c_puti (q := 84) (k := 3) (f := 2) hM rfl rfl xclX7 fwX7_17 (by decide) rfl rfl (Nat.le_of_ble_eq_true rfl) dX7_takeNumber_81 rfl rfl rfl (fun M σ81 a81 e81 b81 hM => ?_)
          have ht81 : Tf σ81 t (f + 2) := ht40.put a81 e81 (by omega)
          refine x_iload_n (q := 85) dX7_takeNumber_84 rfl rfl ?_
          refine xi_i2l (q := 86) dX7_takeNumber_85 rfl rfl (by omega) (by omega) ?_
          refine xn_ldc2 (q := 89) 12 dX7_takeNumber_86 rfl cwX7_63 ?_
          refine xi_lcmp_le (q1 := 90) (q := 93) 100 dX7_takeNumber_89 rfl dX7_takeNumber_90 (by decide) rfl rfl (lN_i' _) (by omega) (by omega) (by omega) (by omega) (fun hc89 => ?_) (fun hc89 => ?_)
          · refine x_iload_n (q := 101) dX7_takeNumber_100 rfl rfl ?_
            have hr : rdU t f false = (10 * (sn t f - 48) + (sn t (f + 1) - 48), f + 2, false) := by unfold rdU; rw [if_pos ⟨rfl, by omega, by omega⟩, if_pos ⟨by omega, by omega⟩, if_neg (by omega)]
            exact x_iret rfl dX7_takeNumber_101 (c_ret hM ⟨by rw [hr, if_neg (by simp), nI_i]; congr 3; omega, a40.trans a81, by rw [hr]; exact ht81⟩)
          · refine x_aload_n (q := 94) dX7_takeNumber_93 rfl rfl ?_
            refine x_iload_n (q := 95) dX7_takeNumber_94 rfl rfl ?_
            refine c_puti (q := 98) (k := 3) (f := 2) hM rfl rfl xclX7 fwX7_17 (by decide) rfl rfl (Nat.le_of_ble_eq_true rfl) dX7_takeNumber_95 rfl rfl rfl (fun M σ95 a95 e95 b95 hM => ?_)
            refine xn_iconst (q := 99) 0 dX7_takeNumber_98 rfl (by decide) ?_
            have hr : rdU t f false = (10 * (sn t f - 48) + (sn t (f + 1) - 48), f, true) := by unfold rdU; rw [if_pos ⟨rfl, by omega, by omega⟩, if_pos ⟨by omega, by omega⟩, if_pos (by omega)]
            exact x_iret rfl dX7_takeNumber_99 (c_ret hM ⟨by rw [hr]; rfl, (a40.trans a81).trans a95, by rw [hr]; exact ht81.put a95 e95 hf⟩)
    · refine xn_iconst (q := 24) 0 dX7_takeNumber_23 rfl (by decide) ?_
      have hr : rdU t f false = (0, f, true) := by unfold rdU; rw [if_neg (fun h => by have := h.2; omega)]
      exact x_iret rfl dX7_takeNumber_24 (c_ret hM ⟨by rw [hr]; rfl, kp.rfl', by rw [hr]; exact ht⟩)

end XB4
