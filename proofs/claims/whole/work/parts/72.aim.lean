section XC7
def lfM (c : mCf) (k q : Nat) : Nat → Int := enP c k ((((12 : Nat) : Int) - ((6 * q : Nat) : Int)) * ((rtP c k : Nat) : Int)) (((8 : Nat) : Int) - ((3 * q : Nat) : Int)) (((4 : Nat) : Int) - ((3 * q : Nat) : Int)) (fun _ => 0)
def lfS (c : mCf) (k : Nat) : Nat → Int := enP c k ((2 * rtP c k : Nat) : Int) ((1 : Nat) : Int) ((1 : Nat) : Int) (fun _ => 0)

set_option maxRecDepth 100000 in
set_option maxHeartbeats 4000000 in
theorem b_aimAtMoment (G : xG) (l : Launch) (ad : Nat → Nat) (F : xM) (R : Nat × Nat) (d : Nat) (σ : cZ) (p : Nat) (hp : p = 5 ∨ p = 6) (c : mCf) (hc : Bm σ 1 c) (hok : okL c) (hz : Fz σ c) (hf : ∀ i, i < 10 → (σ (19 + 3 * p)).2.1 i = iL 0) (k : Nat) (hk : k < c.m) (hb : (σ p).1 7 = nI k) (q : Nat) (hq : q ≤ 4) (hpl : (σ p).1 8 = nI q) : cC G l ad F R YX5_aimAtMoment (d + 2) [.ref (ad p)] σ (fun r σ' => r = none ∧ kp [p, 19 + 3 * p] σ σ' ∧ (σ' p).1 = (σ p).1 ∧ (σ' p).2.1 11 = iL ((2 * c.E k * rtP c k : Nat) : Int) ∧ (σ' p).2.1 12 = iL 256 ∧ ∀ i, i < 10 → (σ' (19 + 3 * p)).2.1 i = iL (lfM c k q i)) := by
  have n4 : p ∉ [19 + 3 * p] ∧ (19 + 3 * p) ∉ [p] ∧ (4 ∉ [19 + 3 * p] ∧ 28 ∉ [19 + 3 * p] ∧ 32 ∉ [19 + 3 * p]) ∧ (4 ∉ [p] ∧ 28 ∉ [p] ∧ 32 ∉ [p]) := by simp; omega
  have w1 : ∀ (τ τ' : cZ), kp [p] τ τ' → kp [p, 19 + 3 * p] τ τ' := fun τ τ' h => h.mono (fun j hj => by simp at hj ⊢; omega)
  have w2 : ∀ (τ τ' : cZ), kp [19 + 3 * p] τ τ' → kp [p, 19 + 3 * p] τ τ' := fun τ τ' h => h.mono (fun j hj => by simp at hj ⊢; omega)
  have hc' := hc
  obtain ⟨h0, h1, h2, h3, h4, h5, h6, h7⟩ := hc
  have hE := (hok.2 k (by omega)).2
  have hs := scP_le hok h0
  refine cC.of (ls := [(0, .ref (ad p))]) (by decide) (Nat.le_of_ble_eq_true rfl) rfl fun M N S hM => ?_

  refine x_aload_n (q := 1) dX5_aimAtMoment_0 rfl rfl ?_
  refine xn_bipush (q := 3) 12 dX5_aimAtMoment_1 rfl (by decide) ?_
  refine xn_bipush (q := 5) 6 dX5_aimAtMoment_3 rfl (by decide) ?_
  refine x_aload_n (q := 6) dX5_aimAtMoment_5 rfl rfl ?_
  refine c_get (q := 9) (k := p) (f := 8) hM (cE_pr _ _ hp) xclX5 fwX5_48 (by decide) dX5_aimAtMoment_6 rfl rfl ?_
  refine x_topi (y := nI q) (by exact hpl) ?_
  refine xn_imul (q := 10) dX5_aimAtMoment_9 rfl ?_
  refine xi_isub (q := 11) dX5_aimAtMoment_10 rfl (nI_i _) (nI_i _) ?_
  refine xi_i2l (q := 12) dX5_aimAtMoment_11 rfl rfl (by omega) (by omega) ?_
  refine x_aload_n (q := 13) dX5_aimAtMoment_12 rfl rfl ?_
  refine c_call (q := 16) (k := p) (As := []) hM (cE_pr _ _ hp) imX5_ratio ivX5_ratio ilX5_ratio mwX5_130 xciX5 dX5_aimAtMoment_13 rfl rfl rfl (Nat.le_of_ble_eq_true rfl) ?_
  refine (b_ratio G l ad F R (d) σ p hp c hc' hok hz k hk hb).mono (fun x9 σ9' hp9 => ?_)
  obtain ⟨rfl, e9⟩ := hp9
  intro M N S hM
  rw [e9] at hM; clear e9 σ9'
  show xX G l _ (d + 2) _ _ _ _ M N S
  refine xi_lmul (q := 17) dX5_aimAtMoment_16 rfl rfl (lN_i' _) ?_
  refine xn_bipush (q := 19) 8 dX5_aimAtMoment_17 rfl (by decide) ?_
  refine xn_iconst (q := 20) 3 dX5_aimAtMoment_19 rfl (by decide) ?_
  refine x_aload_n (q := 21) dX5_aimAtMoment_20 rfl rfl ?_
  refine c_get (q := 24) (k := p) (f := 8) hM (cE_pr _ _ hp) xclX5 fwX5_48 (by decide) dX5_aimAtMoment_21 rfl rfl ?_
  refine x_topi (y := nI q) (by exact hpl) ?_
  refine xn_imul (q := 25) dX5_aimAtMoment_24 rfl ?_
  refine xi_isub (q := 26) dX5_aimAtMoment_25 rfl (nI_i _) (nI_i _) ?_
  refine xi_i2l (q := 27) dX5_aimAtMoment_26 rfl rfl (by omega) (by omega) ?_
  refine xn_iconst (q := 28) 4 dX5_aimAtMoment_27 rfl (by decide) ?_
  refine xn_iconst (q := 29) 3 dX5_aimAtMoment_28 rfl (by decide) ?_
  refine x_aload_n (q := 30) dX5_aimAtMoment_29 rfl rfl ?_
  refine c_get (q := 33) (k := p) (f := 8) hM (cE_pr _ _ hp) xclX5 fwX5_48 (by decide) dX5_aimAtMoment_30 rfl rfl ?_
  refine x_topi (y := nI q) (by exact hpl) ?_
  refine xn_imul (q := 34) dX5_aimAtMoment_33 rfl ?_
  refine xi_isub (q := 35) dX5_aimAtMoment_34 rfl (nI_i _) (nI_i _) ?_
  refine xi_i2l (q := 36) dX5_aimAtMoment_35 rfl rfl (by omega) (by omega) ?_
  refine c_call (q := 39) (k := p) (As := [_, _, _]) hM (cE_pr _ _ hp) imX5_layEnds ivX5_layEnds ilX5_layEnds mwX5_133 xciX5 dX5_aimAtMoment_36 rfl rfl rfl (Nat.le_of_ble_eq_true rfl) ?_
  refine (b_layEnds G l ad F R (d + 0) σ p hp c h0 hz (fun _ => 0) hf k hk hb _ _ _).mono (fun x9 σ36 hp => ?_)
  obtain ⟨rfl, q1, q2⟩ := hp
  intro M N S hM
  show xX G l _ (d + 2) _ _ _ _ M N S
  have hz36 : Fz σ36 c := hz.of_kp q1 n4.2.2.1.1 n4.2.2.1.2.1 n4.2.2.1.2.2
  have hc36 : Bm σ36 1 c := bmk' hc' q1 (by intro j hj; simp at hj; omega)
  have hb36 : (σ36 p).1 7 = nI k := by rw [q1 p n4.1]; exact hb
  refine x_aload_n (q := 40) dX5_aimAtMoment_39 rfl rfl ?_
  refine xn_ldc2 (q := 43) 2 dX5_aimAtMoment_40 rfl cwX5_137 ?_
  refine x_aload_n (q := 44) dX5_aimAtMoment_43 rfl rfl ?_
  refine c_get (q := 47) (k := p) (f := 0) hM (cE_pr _ _ hp) xclX5 fwX5_33 (by decide) dX5_aimAtMoment_44 rfl rfl ?_
  refine c_get (q := 50) (k := 1) (f := 1) hM rfl xclX1 fwX5_139 (by decide) dX5_aimAtMoment_47 rfl rfl ?_
  refine x_aload_n (q := 51) dX5_aimAtMoment_50 rfl rfl ?_
  refine c_get (q := 54) (k := p) (f := 7) hM (cE_pr _ _ hp) xclX5 fwX5_45 (by decide) dX5_aimAtMoment_51 rfl rfl ?_
  refine x_topi (y := nI k) (by exact hb36) ?_
  refine c_lald (q := 55) (k := 15) (n := 3) hM rfl (by decide) (by decide) dX5_aimAtMoment_54 rfl (by omega) ?_
  refine x_topl (y := lN (c.E k)) (by exact hc36.2.2.2.1 k (by omega)) ?_
  refine xn_lmul (q := 56) dX5_aimAtMoment_55 rfl ?_
  refine x_aload_n (q := 57) dX5_aimAtMoment_56 rfl rfl ?_
  refine c_call (q := 60) (k := p) (As := []) hM (cE_pr _ _ hp) imX5_ratio ivX5_ratio ilX5_ratio mwX5_130 xciX5 dX5_aimAtMoment_57 rfl rfl rfl (Nat.le_of_ble_eq_true rfl) ?_
  refine (b_ratio G l ad F R (d) σ36 p hp c hc36 hok hz36 k hk hb36).mono (fun x9 σ9' hp9 => ?_)
  obtain ⟨rfl, e9⟩ := hp9
  intro M N S hM
  rw [e9] at hM; clear e9 σ9'
  show xX G l _ (d + 2) _ _ _ _ M N S
  refine xn_lmul (q := 61) dX5_aimAtMoment_60 rfl ?_
  refine c_putl (q := 64) (k := p) (f := 11) hM (cE_pr _ _ hp) (by rw [cE_pr _ _ hp, mu_s]; rfl) xclX5 fwX5_97 (by decide) rfl rfl (Nat.le_of_ble_eq_true rfl) dX5_aimAtMoment_61 rfl rfl rfl (fun M σ61 a61 e61 b61 hM => ?_)
  refine x_aload_n (q := 65) dX5_aimAtMoment_64 rfl rfl ?_
  refine xn_ldc2 (q := 68) 256 dX5_aimAtMoment_65 rfl cwX5_142 ?_
  refine c_putl (q := 71) (k := p) (f := 12) hM (cE_pr _ _ hp) (by rw [cE_pr _ _ hp, mu_s]; rfl) xclX5 fwX5_113 (by decide) rfl rfl (Nat.le_of_ble_eq_true rfl) dX5_aimAtMoment_68 rfl rfl rfl (fun M σ68 a68 e68 b68 hM => ?_)
  exact x_vret rfl dX5_aimAtMoment_71 (c_ret hM ⟨rfl, (w2 _ _ q1).trans ((w1 _ _ a61).trans (w1 _ _ a68)), by rw [b68.1, b61.1, q1 p n4.1], by rw [e68, mu_n (by decide), e61, mu_s]; try (first | rfl | rw [lN_i']), by rw [e68, mu_s]; try (first | rfl | rw [lN_i']), fun i hi => by rw [a68 _ n4.2.1, a61 _ n4.2.1]; exact q2 i hi⟩)

set_option maxRecDepth 100000 in
set_option maxHeartbeats 4000000 in
theorem b_aimAtShear (G : xG) (l : Launch) (ad : Nat → Nat) (F : xM) (R : Nat × Nat) (d : Nat) (σ : cZ) (p : Nat) (hp : p = 5 ∨ p = 6) (c : mCf) (hc : Bm σ 1 c) (hok : okL c) (hz : Fz σ c) (hf : ∀ i, i < 10 → (σ (19 + 3 * p)).2.1 i = iL 0) (k : Nat) (hk : k < c.m) (hb : (σ p).1 7 = nI k) : cC G l ad F R YX5_aimAtShear (d + 2) [.ref (ad p)] σ (fun r σ' => r = none ∧ kp [p, 19 + 3 * p] σ σ' ∧ (σ' p).1 = (σ p).1 ∧ (σ' p).2.1 11 = iL (((-6 : Int) * ((c.E k : Nat) : Int)) * ((rtP c k : Nat) : Int) * ((rtP c k : Nat) : Int)) ∧ (σ' p).2.1 12 = iL ((64 * scP c c.m : Nat) : Int) ∧ ∀ i, i < 10 → (σ' (19 + 3 * p)).2.1 i = iL (lfS c k i)) := by
  have n4 : p ∉ [19 + 3 * p] ∧ (19 + 3 * p) ∉ [p] ∧ (4 ∉ [19 + 3 * p] ∧ 28 ∉ [19 + 3 * p] ∧ 32 ∉ [19 + 3 * p]) ∧ (4 ∉ [p] ∧ 28 ∉ [p] ∧ 32 ∉ [p]) := by simp; omega
  have w1 : ∀ (τ τ' : cZ), kp [p] τ τ' → kp [p, 19 + 3 * p] τ τ' := fun τ τ' h => h.mono (fun j hj => by simp at hj ⊢; omega)
  have w2 : ∀ (τ τ' : cZ), kp [19 + 3 * p] τ τ' → kp [p, 19 + 3 * p] τ τ' := fun τ τ' h => h.mono (fun j hj => by simp at hj ⊢; omega)
  have hc' := hc
  obtain ⟨h0, h1, h2, h3, h4, h5, h6, h7⟩ := hc
  have hE := (hok.2 k (by omega)).2
  have hs := scP_le hok h0
  refine cC.of (ls := [(0, .ref (ad p))]) (by decide) (Nat.le_of_ble_eq_true rfl) rfl fun M N S hM => ?_

  refine x_aload_n (q := 1) dX5_aimAtShear_0 rfl rfl ?_
  refine xn_ldc2 (q := 4) 2 dX5_aimAtShear_1 rfl cwX5_137 ?_
  refine x_aload_n (q := 5) dX5_aimAtShear_4 rfl rfl ?_
  refine c_call (q := 8) (k := p) (As := []) hM (cE_pr _ _ hp) imX5_ratio ivX5_ratio ilX5_ratio mwX5_130 xciX5 dX5_aimAtShear_5 rfl rfl rfl (Nat.le_of_ble_eq_true rfl) ?_
  refine (b_ratio G l ad F R (d) σ p hp c hc' hok hz k hk hb).mono (fun x9 σ9' hp9 => ?_)
  obtain ⟨rfl, e9⟩ := hp9
  intro M N S hM
  rw [e9] at hM; clear e9 σ9'
  show xX G l _ (d + 2) _ _ _ _ M N S
  refine xn_lmul (q := 9) dX5_aimAtShear_8 rfl ?_
  refine xn_lconst (q := 10) 1 dX5_aimAtShear_9 rfl (by decide) ?_
  refine xn_lconst (q := 11) 1 dX5_aimAtShear_10 rfl (by decide) ?_
  rw [lN_i' (2 * rtP c k), lN_i' 1]
  refine c_call (q := 14) (k := p) (As := [_, _, _]) hM (cE_pr _ _ hp) imX5_layEnds ivX5_layEnds ilX5_layEnds mwX5_133 xciX5 dX5_aimAtShear_11 rfl rfl rfl (Nat.le_of_ble_eq_true rfl) ?_
  refine (b_layEnds G l ad F R (d + 0) σ p hp c h0 hz (fun _ => 0) hf k hk hb ((2 * rtP c k : Nat) : Int) ((1 : Nat) : Int) ((1 : Nat) : Int)).mono (fun x9 σ11 hp9 => ?_)
  obtain ⟨rfl, q1, q2⟩ := hp9
  intro M N S hM
  show xX G l _ (d + 2) _ _ _ _ M N S
  have hz36 : Fz σ11 c := hz.of_kp q1 n4.2.2.1.1 n4.2.2.1.2.1 n4.2.2.1.2.2
  have hc36 : Bm σ11 1 c := bmk' hc' q1 (by intro j hj; simp at hj; omega)
  have hb36 : (σ11 p).1 7 = nI k := by rw [q1 p n4.1]; exact hb
  refine x_aload_n (q := 15) dX5_aimAtShear_14 rfl rfl ?_
  refine x_ldc2 (q := 18) (-6) dX5_aimAtShear_15 rfl cwX5_144 ?_
  refine x_topl (y := iL (-6)) (by decide) ?_
  refine x_aload_n (q := 19) dX5_aimAtShear_18 rfl rfl ?_
  refine c_get (q := 22) (k := p) (f := 0) hM (cE_pr _ _ hp) xclX5 fwX5_33 (by decide) dX5_aimAtShear_19 rfl rfl ?_
  refine c_get (q := 25) (k := 1) (f := 1) hM rfl xclX1 fwX5_139 (by decide) dX5_aimAtShear_22 rfl rfl ?_
  refine x_aload_n (q := 26) dX5_aimAtShear_25 rfl rfl ?_
  refine c_get (q := 29) (k := p) (f := 7) hM (cE_pr _ _ hp) xclX5 fwX5_45 (by decide) dX5_aimAtShear_26 rfl rfl ?_
  refine x_topi (y := nI k) (by exact hb36) ?_
  refine c_lald (q := 30) (k := 15) (n := 3) hM rfl (by decide) (by decide) dX5_aimAtShear_29 rfl (by omega) ?_
  refine x_topl (y := lN (c.E k)) (by exact hc36.2.2.2.1 k (by omega)) ?_
  refine xi_lmul (q := 31) dX5_aimAtShear_30 rfl rfl (lN_i' _) ?_
  refine x_aload_n (q := 32) dX5_aimAtShear_31 rfl rfl ?_
  refine c_call (q := 35) (k := p) (As := []) hM (cE_pr _ _ hp) imX5_ratio ivX5_ratio ilX5_ratio mwX5_130 xciX5 dX5_aimAtShear_32 rfl rfl rfl (Nat.le_of_ble_eq_true rfl) ?_
  refine (b_ratio G l ad F R (d) σ11 p hp c hc36 hok hz36 k hk hb36).mono (fun x9 σ9' hp9 => ?_)
  obtain ⟨rfl, e9⟩ := hp9
  intro M N S hM
  rw [e9] at hM; clear e9 σ9'
  show xX G l _ (d + 2) _ _ _ _ M N S
  refine xi_lmul (q := 36) dX5_aimAtShear_35 rfl rfl (lN_i' _) ?_
  refine x_aload_n (q := 37) dX5_aimAtShear_36 rfl rfl ?_
  refine c_call (q := 40) (k := p) (As := []) hM (cE_pr _ _ hp) imX5_ratio ivX5_ratio ilX5_ratio mwX5_130 xciX5 dX5_aimAtShear_37 rfl rfl rfl (Nat.le_of_ble_eq_true rfl) ?_
  refine (b_ratio G l ad F R (d) σ11 p hp c hc36 hok hz36 k hk hb36).mono (fun x9 σ9' hp9 => ?_)
  obtain ⟨rfl, e9⟩ := hp9
  intro M N S hM
  rw [e9] at hM; clear e9 σ9'
  show xX G l _ (d + 2) _ _ _ _ M N S
  refine xi_lmul (q := 41) dX5_aimAtShear_40 rfl rfl (lN_i' _) ?_
  refine c_putl (q := 44) (k := p) (f := 11) hM (cE_pr _ _ hp) (by rw [cE_pr _ _ hp, mu_s]; rfl) xclX5 fwX5_97 (by decide) rfl rfl (Nat.le_of_ble_eq_true rfl) dX5_aimAtShear_41 rfl rfl rfl (fun M σ41 a41 e41 b41 hM => ?_)
  refine x_aload_n (q := 45) dX5_aimAtShear_44 rfl rfl ?_
  refine xn_ldc2 (q := 48) 64 dX5_aimAtShear_45 rfl cwX5_146 ?_
  refine x_aload_n (q := 49) dX5_aimAtShear_48 rfl rfl ?_
  refine c_get (q := 52) (k := p) (f := 1) hM (cE_pr _ _ hp) xclX5 fwX5_37 (by decide) dX5_aimAtShear_49 rfl rfl ?_
  refine c_call (q := 55) (k := 4) (As := []) hM rfl imX4_scale ivX4_scale ilX4_scale mwX5_120 xciX4 dX5_aimAtShear_52 rfl rfl rfl (Nat.le_of_ble_eq_true rfl) ?_
  refine (b_scale G l ad F R (d + 1) σ41).mono (fun x9 σ9' hp9 => ?_)
  obtain ⟨rfl, e9⟩ := hp9
  intro M N S hM
  rw [e9] at hM; clear e9 σ9'
  rw [(hz36.of_kp a41 n4.2.2.2.1 n4.2.2.2.2.1 n4.2.2.2.2.2).1]
  show xX G l _ (d + 2) _ _ _ _ M N S
  refine xn_lmul (q := 56) dX5_aimAtShear_55 rfl ?_
  refine c_putl (q := 59) (k := p) (f := 12) hM (cE_pr _ _ hp) (by rw [cE_pr _ _ hp, mu_s]; rfl) xclX5 fwX5_113 (by decide) rfl rfl (Nat.le_of_ble_eq_true rfl) dX5_aimAtShear_56 rfl rfl rfl (fun M σ56 a56 e56 b56 hM => ?_)
  exact x_vret rfl dX5_aimAtShear_59 (c_ret hM ⟨rfl, (w2 _ _ q1).trans ((w1 _ _ a41).trans (w1 _ _ a56)), by rw [b56.1, b41.1, q1 p n4.1], by rw [e56, mu_n (by decide), e41, mu_s]; try (first | rfl | rw [lN_i']), by rw [e56, mu_s]; try (first | rfl | rw [lN_i']), fun i hi => by rw [a56 _ n4.2.1, a41 _ n4.2.1]; exact q2 i hi⟩)

set_option maxRecDepth 100000 in
set_option maxHeartbeats 4000000 in
theorem b_aimAtMove (G : xG) (l : Launch) (ad : Nat → Nat) (F : xM) (R : Nat × Nat) (d : Nat) (σ : cZ) (p : Nat) (hp : p = 5 ∨ p = 6) (c : mCf) (hc : Bm σ 1 c) (hok : okL c) (hz : Fz σ c) (hf : ∀ i, i < 10 → (σ (19 + 3 * p)).2.1 i = iL 0) (k : Nat) (hk : k < c.m) (hb : (σ p).1 7 = nI k) (q : Nat) (hq : q ≤ 4) (hpl : (σ p).1 8 = nI q) : cC G l ad F R YX5_aimAtMove (d + 2) [.ref (ad p)] σ (fun r σ' => r = none ∧ kp [p, 19 + 3 * p] σ σ' ∧ (σ' p).1 = (σ p).1 ∧ (σ' p).2.1 11 = iL ((6 * c.E k * scP c c.m : Nat) : Int) ∧ (σ' p).2.1 12 = iL ((24576 * c.E k : Nat) : Int) ∧ ∀ i, i < 10 → (σ' (19 + 3 * p)).2.1 i = iL (shP c k q (fun _ => 0) i)) := by
  have n4 : p ∉ [19 + 3 * p] ∧ (19 + 3 * p) ∉ [p] ∧ (4 ∉ [19 + 3 * p] ∧ 28 ∉ [19 + 3 * p] ∧ 32 ∉ [19 + 3 * p]) ∧ (4 ∉ [p] ∧ 28 ∉ [p] ∧ 32 ∉ [p]) := by simp; omega
  have w1 : ∀ (τ τ' : cZ), kp [p] τ τ' → kp [p, 19 + 3 * p] τ τ' := fun τ τ' h => h.mono (fun j hj => by simp at hj ⊢; omega)
  have w2 : ∀ (τ τ' : cZ), kp [19 + 3 * p] τ τ' → kp [p, 19 + 3 * p] τ τ' := fun τ τ' h => h.mono (fun j hj => by simp at hj ⊢; omega)
  have hc' := hc
  obtain ⟨h0, h1, h2, h3, h4, h5, h6, h7⟩ := hc
  have hE := (hok.2 k (by omega)).2
  have hs := scP_le hok h0
  refine cC.of (ls := [(0, .ref (ad p))]) (by decide) (Nat.le_of_ble_eq_true rfl) rfl fun M N S hM => ?_

  refine x_aload_n (q := 1) dX5_aimAtMove_0 rfl rfl ?_
  refine x_aload_n (q := 2) dX5_aimAtMove_1 rfl rfl ?_
  refine c_get (q := 5) (k := p) (f := 2) hM (cE_pr _ _ hp) xclX5 fwX5_11 (by decide) dX5_aimAtMove_2 rfl rfl ?_
  refine x_aload_n (q := 6) dX5_aimAtMove_5 rfl rfl ?_
  refine c_get (q := 9) (k := p) (f := 7) hM (cE_pr _ _ hp) xclX5 fwX5_45 (by decide) dX5_aimAtMove_6 rfl rfl ?_
  refine x_topi (y := nI k) (by exact hb) ?_
  refine x_aload_n (q := 10) dX5_aimAtMove_9 rfl rfl ?_
  refine c_get (q := 13) (k := p) (f := 8) hM (cE_pr _ _ hp) xclX5 fwX5_48 (by decide) dX5_aimAtMove_10 rfl rfl ?_
  refine x_topi (y := nI q) (by exact hpl) ?_
  refine c_call (q := 16) (k := p) (As := [_, _, _]) hM (cE_pr _ _ hp) imX5_layShape ivX5_layShape ilX5_layShape mwX5_85 xciX5 dX5_aimAtMove_13 rfl rfl rfl (Nat.le_of_ble_eq_true rfl) ?_
  refine (b_layShape G l ad F R (d + 0) σ p hp c hc' hok hz (19 + 3 * p) (by omega) (fun τ => cE_pl ad τ hp) (fun _ => 0) hf k q hk hq).mono (fun x9 σ13 hp => ?_)
  obtain ⟨rfl, q1, q2⟩ := hp
  intro M N S hM
  show xX G l _ (d + 2) _ _ _ _ M N S
  have hz36 : Fz σ13 c := hz.of_kp q1 n4.2.2.1.1 n4.2.2.1.2.1 n4.2.2.1.2.2
  have hc36 : Bm σ13 1 c := bmk' hc' q1 (by intro j hj; simp at hj; omega)
  have hb36 : (σ13 p).1 7 = nI k := by rw [q1 p n4.1]; exact hb
  refine x_aload_n (q := 17) dX5_aimAtMove_16 rfl rfl ?_
  refine xn_ldc2 (q := 20) 6 dX5_aimAtMove_17 rfl cwX5_148 ?_
  refine x_aload_n (q := 21) dX5_aimAtMove_20 rfl rfl ?_
  refine c_get (q := 24) (k := p) (f := 0) hM (cE_pr _ _ hp) xclX5 fwX5_33 (by decide) dX5_aimAtMove_21 rfl rfl ?_
  refine c_get (q := 27) (k := 1) (f := 1) hM rfl xclX1 fwX5_139 (by decide) dX5_aimAtMove_24 rfl rfl ?_
  refine x_aload_n (q := 28) dX5_aimAtMove_27 rfl rfl ?_
  refine c_get (q := 31) (k := p) (f := 7) hM (cE_pr _ _ hp) xclX5 fwX5_45 (by decide) dX5_aimAtMove_28 rfl rfl ?_
  refine x_topi (y := nI k) (by exact hb36) ?_
  refine c_lald (q := 32) (k := 15) (n := 3) hM rfl (by decide) (by decide) dX5_aimAtMove_31 rfl (by omega) ?_
  refine x_topl (y := lN (c.E k)) (by exact hc36.2.2.2.1 k (by omega)) ?_
  refine xn_lmul (q := 33) dX5_aimAtMove_32 rfl ?_
  refine x_aload_n (q := 34) dX5_aimAtMove_33 rfl rfl ?_
  refine c_get (q := 37) (k := p) (f := 1) hM (cE_pr _ _ hp) xclX5 fwX5_37 (by decide) dX5_aimAtMove_34 rfl rfl ?_
  refine c_call (q := 40) (k := 4) (As := []) hM rfl imX4_scale ivX4_scale ilX4_scale mwX5_120 xciX4 dX5_aimAtMove_37 rfl rfl rfl (Nat.le_of_ble_eq_true rfl) ?_
  refine (b_scale G l ad F R (d + 1) σ13).mono (fun x9 σ9' hp9 => ?_)
  obtain ⟨rfl, e9⟩ := hp9
  intro M N S hM
  rw [e9] at hM; clear e9 σ9'
  rw [hz36.1]
  show xX G l _ (d + 2) _ _ _ _ M N S
  refine xn_lmul (q := 41) dX5_aimAtMove_40 rfl ?_
  refine c_putl (q := 44) (k := p) (f := 11) hM (cE_pr _ _ hp) (by rw [cE_pr _ _ hp, mu_s]; rfl) xclX5 fwX5_97 (by decide) rfl rfl (Nat.le_of_ble_eq_true rfl) dX5_aimAtMove_41 rfl rfl rfl (fun M σ41 a41 e41 b41 hM => ?_)
  refine x_aload_n (q := 45) dX5_aimAtMove_44 rfl rfl ?_
  refine xn_ldc2 (q := 48) 24576 dX5_aimAtMove_45 rfl cwX5_150 ?_
  refine x_aload_n (q := 49) dX5_aimAtMove_48 rfl rfl ?_
  refine c_get (q := 52) (k := p) (f := 0) hM (cE_pr _ _ hp) xclX5 fwX5_33 (by decide) dX5_aimAtMove_49 rfl rfl ?_
  refine c_get (q := 55) (k := 1) (f := 1) hM rfl xclX1 fwX5_139 (by decide) dX5_aimAtMove_52 rfl rfl ?_
  refine x_aload_n (q := 56) dX5_aimAtMove_55 rfl rfl ?_
  refine c_get (q := 59) (k := p) (f := 7) hM (cE_pr _ _ hp) xclX5 fwX5_45 (by decide) dX5_aimAtMove_56 rfl rfl ?_
  refine x_topi (y := nI k) (by rw [b41.1]; exact hb36) ?_
  refine c_lald (q := 60) (k := 15) (n := 3) hM rfl (by decide) (by decide) dX5_aimAtMove_59 rfl (by omega) ?_
  refine x_topl (y := lN (c.E k)) (by rw [a41 15 (by simp; omega)]; exact hc36.2.2.2.1 k (by omega)) ?_
  refine xn_lmul (q := 61) dX5_aimAtMove_60 rfl ?_
  refine c_putl (q := 64) (k := p) (f := 12) hM (cE_pr _ _ hp) (by rw [cE_pr _ _ hp, mu_s]; rfl) xclX5 fwX5_113 (by decide) rfl rfl (Nat.le_of_ble_eq_true rfl) dX5_aimAtMove_61 rfl rfl rfl (fun M σ61 a61 e61 b61 hM => ?_)
  exact x_vret rfl dX5_aimAtMove_64 (c_ret hM ⟨rfl, (w2 _ _ q1).trans ((w1 _ _ a41).trans (w1 _ _ a61)), by rw [b61.1, b41.1, q1 p n4.1], by rw [e61, mu_n (by decide), e41, mu_s]; try (first | rfl | rw [lN_i']), by rw [e61, mu_s]; try (first | rfl | rw [lN_i']), fun i hi => by rw [a61 _ n4.2.1, a41 _ n4.2.1]; exact q2 i hi⟩)

set_option maxRecDepth 100000 in
set_option maxHeartbeats 4000000 in
theorem b_aimAtReactions (G : xG) (l : Launch) (ad : Nat → Nat) (F : xM) (R : Nat × Nat) (d : Nat) (σ : cZ) (p : Nat) (hp : p = 5 ∨ p = 6) (c : mCf) (hz : Fz σ c) : cC G l ad F R YX5_aimAtReactions (d + 1) [.ref (ad p)] σ (fun r σ' => r = none ∧ kp [p, 21 + 3 * p] σ σ' ∧ (σ' p).1 = (σ p).1 ∧ (σ' p).2.1 11 = iL (-1) ∧ (σ' p).2.1 12 = iL ((64 * scP c c.m : Nat) : Int) ∧ ∀ i, i < 4 → (σ' (21 + 3 * p)).1 i = bI false) := by
  have n4 : p ∉ [21 + 3 * p] ∧ (21 + 3 * p) ∉ [p] ∧ 4 ∉ [p] := by simp; omega
  have w1 : ∀ (τ τ' : cZ), kp [p] τ τ' → kp [p, 21 + 3 * p] τ τ' := fun τ τ' h => h.mono (fun j hj => by simp at hj ⊢; omega)
  have w2 : ∀ (τ τ' : cZ), kp [21 + 3 * p] τ τ' → kp [p, 21 + 3 * p] τ τ' := fun τ τ' h => h.mono (fun j hj => by simp at hj ⊢; omega)
  have loop : ∀ (u i : Nat) (σ1 : cZ) (M : xM) (N S : Nat), i + u = 4 → kp [p, 21 + 3 * p] σ σ1 → (σ1 p).1 = (σ p).1 → (σ1 p).2.1 11 = iL (-1) → (σ1 p).2.1 12 = iL ((64 * scP c c.m : Nat) : Int) → (∀ j, j < i → (σ1 (21 + 3 * p)).1 j = bI false) → cA G ad F R σ1 M N S → xX G l YX5_aimAtReactions (d + 1) (cQ G ad F R (fun r σ' => r = none ∧ kp [p, 21 + 3 * p] σ σ' ∧ (σ' p).1 = (σ p).1 ∧ (σ' p).2.1 11 = iL (-1) ∧ (σ' p).2.1 12 = iL ((64 * scP c c.m : Nat) : Int) ∧ ∀ i, i < 4 → (σ' (21 + 3 * p)).1 i = bI false)) 24 [(0, .ref (ad p)), (1, .int (nI i))] [] M N S := by
    intro u
    induction u with
    | zero =>
      intro i σ1 M N S hi k1 k2 k3 k4 k5 hM

      refine x_iload_n (q := 25) dX5_aimAtReactions_24 rfl rfl ?_
      refine x_aload_n (q := 26) dX5_aimAtReactions_25 rfl rfl ?_
      refine c_get (q := 29) (k := p) (f := 4) hM (cE_pr _ _ hp) xclX5 fwX5_22 (by decide) dX5_aimAtReactions_26 rfl rfl ?_
      refine x_alen (q := 30) (nI 4) 2 dX5_aimAtReactions_29 rfl (hM.arr (k := (21 + 3 * p)) (cE_pa _ _ hp) (by omega)) rfl rfl ?_
      refine xn_icmp_ge (q := 33) 46 dX5_aimAtReactions_30 (by decide) rfl (by omega) (by omega) (fun hc30 => ?_) (fun hc30 => absurd hc30 (by omega))
      exact x_vret rfl dX5_aimAtReactions_46 (c_ret hM ⟨rfl, k1, k2, k3, k4, fun j hj => k5 j (by omega)⟩)

    | succ u ih =>
      intro i σ1 M N S hi k1 k2 k3 k4 k5 hM

      refine x_iload_n (q := 25) dX5_aimAtReactions_24 rfl rfl ?_
      refine x_aload_n (q := 26) dX5_aimAtReactions_25 rfl rfl ?_
      refine c_get (q := 29) (k := p) (f := 4) hM (cE_pr _ _ hp) xclX5 fwX5_22 (by decide) dX5_aimAtReactions_26 rfl rfl ?_
      refine x_alen (q := 30) (nI 4) 2 dX5_aimAtReactions_29 rfl (hM.arr (k := (21 + 3 * p)) (cE_pa _ _ hp) (by omega)) rfl rfl ?_
      refine xn_icmp_ge (q := 33) 46 dX5_aimAtReactions_30 (by decide) rfl (by omega) (by omega) (fun hc30 => absurd hc30 (by omega)) (fun hc30 => ?_)
      refine x_aload_n (q := 34) dX5_aimAtReactions_33 rfl rfl ?_
      refine c_get (q := 37) (k := p) (f := 4) hM (cE_pr _ _ hp) xclX5 fwX5_22 (by decide) dX5_aimAtReactions_34 rfl rfl ?_
      refine x_iload_n (q := 38) dX5_aimAtReactions_37 rfl rfl ?_
      refine xn_iconst (q := 39) 0 dX5_aimAtReactions_38 rfl (by decide) ?_
      refine c_zast (q := 40) (k := (21 + 3 * p)) (n := 4) hM (by omega) (fun _ => (cE_pa _ _ hp)) (by decide) dX5_aimAtReactions_39 rfl (by omega) (by decide) (fun M σ39 a39 e39 b39 hM => ?_)
      refine xn_iinc (q := 43) (ls' := [(0, _), (1, _)]) [1, 0] 1 dX5_aimAtReactions_40 rfl rfl (by decide) (by decide) rfl ?_
      refine x_goto 24 dX5_aimAtReactions_43 (by decide) ?_
      refine ih (i + 1) σ39 M N S (by omega) (k1.trans (w2 _ _ a39)) (by rw [a39 p n4.1]; exact k2) (by rw [a39 p n4.1]; exact k3) (by rw [a39 p n4.1]; exact k4) (fun j hj => ?_) hM
      rw [e39]
      by_cases ej : j = i
      · rw [ej]; simp only [upd, if_true]; rfl
      · simp only [upd, if_neg ej]; exact k5 j (by omega)

  refine cC.of (ls := [(0, .ref (ad p))]) (by decide) (Nat.le_of_ble_eq_true rfl) rfl fun M N S hM => ?_

  refine x_aload_n (q := 1) dX5_aimAtReactions_0 rfl rfl ?_
  refine x_ldc2 (q := 4) (-1) dX5_aimAtReactions_1 rfl cwX5_152 ?_
  refine x_topl (y := iL (-1)) (by decide) ?_
  refine c_putl (q := 7) (k := p) (f := 11) hM (cE_pr _ _ hp) (by rw [cE_pr _ _ hp, mu_s]; rfl) xclX5 fwX5_97 (by decide) rfl rfl (Nat.le_of_ble_eq_true rfl) dX5_aimAtReactions_4 rfl rfl rfl (fun M σ4 a4 e4 b4 hM => ?_)
  refine x_aload_n (q := 8) dX5_aimAtReactions_7 rfl rfl ?_
  refine xn_ldc2 (q := 11) 64 dX5_aimAtReactions_8 rfl cwX5_146 ?_
  refine x_aload_n (q := 12) dX5_aimAtReactions_11 rfl rfl ?_
  refine c_get (q := 15) (k := p) (f := 1) hM (cE_pr _ _ hp) xclX5 fwX5_37 (by decide) dX5_aimAtReactions_12 rfl rfl ?_
  refine c_call (q := 18) (k := 4) (As := []) hM rfl imX4_scale ivX4_scale ilX4_scale mwX5_120 xciX4 dX5_aimAtReactions_15 rfl rfl rfl (Nat.le_of_ble_eq_true rfl) ?_
  refine (b_scale G l ad F R (d) σ4).mono (fun x9 σ9' hp9 => ?_)
  obtain ⟨rfl, e9⟩ := hp9
  intro M N S hM
  rw [e9] at hM; clear e9 σ9'
  rw [show (σ4 4).2.1 12 = lN (scP c c.m) by rw [a4 4 n4.2.2]; exact hz.1]
  show xX G l _ (d + 1) _ _ _ _ M N S
  refine xn_lmul (q := 19) dX5_aimAtReactions_18 rfl ?_
  refine c_putl (q := 22) (k := p) (f := 12) hM (cE_pr _ _ hp) (by rw [cE_pr _ _ hp, mu_s]; rfl) xclX5 fwX5_113 (by decide) rfl rfl (Nat.le_of_ble_eq_true rfl) dX5_aimAtReactions_19 rfl rfl rfl (fun M σ19 a19 e19 b19 hM => ?_)
  refine xn_iconst (q := 23) 0 dX5_aimAtReactions_22 rfl (by decide) ?_
  refine x_istore_n (q := 24) (ls' := [(0, _), (1, _)]) [1, 0] dX5_aimAtReactions_23 rfl (by decide) rfl ?_
  exact loop 4 0 σ19 M N S (by decide) ((w1 _ _ a4).trans (w1 _ _ a19)) (by rw [b19.1, b4.1]) (by rw [e19, mu_n (by decide), e4, mu_s]) (by rw [e19, mu_s]; rw [lN_i']) (fun j hj => absurd hj (Nat.not_lt_zero j)) hM

set_option maxRecDepth 100000 in
set_option maxHeartbeats 4000000 in
theorem b_addReaction (G : xG) (l : Launch) (ad : Nat → Nat) (F : xM) (R : Nat × Nat) (d : Nat) (σ : cZ) (p : Nat) (hp : p = 5 ∨ p = 6) (c : mCf) (hz : Fz σ c) (f : Nat → Int) (hf : ∀ i, i < 10 → (σ (19 + 3 * p)).2.1 i = iL (f i)) (n : Nat) (hn : n < 4) : cC G l ad F R YX5_addReaction (d + 1) [.ref (ad p), .int (nI n)] σ (fun r σ' => r = none ∧ kp [19 + 3 * p, 21 + 3 * p] σ σ' ∧ (σ' (21 + 3 * p)).1 = upd (σ (21 + 3 * p)).1 n (nI 1) ∧ ∀ i, i < 10 → (σ' (19 + 3 * p)).2.1 i = iL (f i + puP c (n * 10 + i))) := by
  have n4 : (21 + 3 * p) ∉ [19 + 3 * p] ∧ (19 + 3 * p) ∉ [21 + 3 * p] ∧ 32 ∉ [19 + 3 * p, 21 + 3 * p] := by simp; omega
  have w1 : ∀ (τ τ' : cZ), kp [19 + 3 * p] τ τ' → kp [19 + 3 * p, 21 + 3 * p] τ τ' := fun τ τ' h => h.mono (fun j hj => by simp at hj ⊢; omega)
  have w2 : ∀ (τ τ' : cZ), kp [21 + 3 * p] τ τ' → kp [19 + 3 * p, 21 + 3 * p] τ τ' := fun τ τ' h => h.mono (fun j hj => by simp at hj ⊢; omega)
  have loop : ∀ (u i : Nat) (σ1 : cZ) (M : xM) (N S : Nat), i + u = 10 → kp [19 + 3 * p, 21 + 3 * p] σ σ1 → (σ1 (21 + 3 * p)).1 = upd (σ (21 + 3 * p)).1 n (nI 1) → (∀ j, j < i → (σ1 (19 + 3 * p)).2.1 j = iL (f j + puP c (n * 10 + j))) → (∀ j, i ≤ j → j < 10 → (σ1 (19 + 3 * p)).2.1 j = iL (f j)) → cA G ad F R σ1 M N S → xX G l YX5_addReaction (d + 1) (cQ G ad F R (fun r σ' => r = none ∧ kp [19 + 3 * p, 21 + 3 * p] σ σ' ∧ (σ' (21 + 3 * p)).1 = upd (σ (21 + 3 * p)).1 n (nI 1) ∧ ∀ i, i < 10 → (σ' (19 + 3 * p)).2.1 i = iL (f i + puP c (n * 10 + i)))) 9 [(0, .ref (ad p)), (1, .int (nI n)), (2, .int (nI i))] [] M N S := by
    intro u
    induction u with
    | zero =>
      intro i σ1 M N S hi k1 k2 k3 k4 hM

      refine x_iload_n (q := 10) dX5_addReaction_9 rfl rfl ?_
      refine xn_bipush (q := 12) 10 dX5_addReaction_10 rfl (by decide) ?_
      refine xn_icmp_ge (q := 15) 39 dX5_addReaction_12 (by decide) rfl (by omega) (by omega) (fun hc12 => ?_) (fun hc12 => absurd hc12 (by omega))
      exact x_vret rfl dX5_addReaction_39 (c_ret hM ⟨rfl, k1, k2, fun j hj => k3 j (by omega)⟩)

    | succ u ih =>
      intro i σ1 M N S hi k1 k2 k3 k4 hM
      have e32 : (σ1 32).2.1 (n * 10 + i) = iL (puP c (n * 10 + i)) := by rw [k1 32 n4.2.2]; exact hz.2.2 _ (by omega)

      refine x_iload_n (q := 10) dX5_addReaction_9 rfl rfl ?_
      refine xn_bipush (q := 12) 10 dX5_addReaction_10 rfl (by decide) ?_
      refine xn_icmp_ge (q := 15) 39 dX5_addReaction_12 (by decide) rfl (by omega) (by omega) (fun hc12 => absurd hc12 (by omega)) (fun hc12 => ?_)
      refine x_aload_n (q := 16) dX5_addReaction_15 rfl rfl ?_
      refine c_get (q := 19) (k := p) (f := 2) hM (cE_pr _ _ hp) xclX5 fwX5_11 (by decide) dX5_addReaction_16 rfl rfl ?_
      refine x_iload_n (q := 20) dX5_addReaction_19 rfl rfl ?_
      refine x_dup2 (q := 21) dX5_addReaction_20 rfl rfl rfl ?_
      refine c_lald (q := 22) (k := (19 + 3 * p)) (n := 10) hM (cE_pl _ _ hp) (by omega) (by decide) dX5_addReaction_21 rfl (by omega) ?_
      refine x_topl (y := iL (f i)) (by exact k4 i (Nat.le_refl _) (by omega)) ?_
      refine x_aload_n (q := 23) dX5_addReaction_22 rfl rfl ?_
      refine c_get (q := 26) (k := p) (f := 1) hM (cE_pr _ _ hp) xclX5 fwX5_37 (by decide) dX5_addReaction_23 rfl rfl ?_
      refine x_iload_n (q := 27) dX5_addReaction_26 rfl rfl ?_
      refine x_iload_n (q := 28) dX5_addReaction_27 rfl rfl ?_
      refine c_call (q := 31) (k := 4) (As := [_, _]) hM rfl imX4_pullOf ivX4_pullOf ilX4_pullOf mwX5_116 xciX4 dX5_addReaction_28 rfl rfl rfl (Nat.le_of_ble_eq_true rfl) ?_
      refine (b_pullOf G l ad F R d σ1 n i (by omega) (by omega)).mono (fun x9 σ9' hp => ?_)
      obtain ⟨rfl, e9⟩ := hp
      intro M N S hM
      rw [e9] at hM; clear e9 σ9'
      show xX G l _ (d + 1) _ _ _ _ M N S
      refine x_topl (y := iL (puP c (n * 10 + i))) (by exact e32) ?_
      refine xi_ladd (q := 32) dX5_addReaction_31 rfl rfl rfl ?_
      refine c_last (q := 33) (k := (19 + 3 * p)) (n := 10) hM (by omega) (fun _ => (cE_pl _ _ hp)) (by decide) dX5_addReaction_32 rfl (by omega) (fun M σ32 a32 e32' b32 hM => ?_)
      refine xn_iinc (q := 36) (ls' := [(0, _), (1, _), (2, _)]) [1, 2, 0] 1 dX5_addReaction_33 rfl rfl (by decide) (by decide) rfl ?_
      refine x_goto 9 dX5_addReaction_36 (by decide) ?_
      refine ih (i + 1) σ32 M N S (by omega) (k1.trans (w1 _ _ a32)) (by rw [a32 _ n4.1]; exact k2) (fun j hj => ?_) (fun j h1 h2 => ?_) hM
      · rw [e32']
        by_cases ej : j = i
        · rw [ej]; simp [vp_updL]
        · simp only [vp_updL, if_neg ej]; exact k3 j (by omega)
      · rw [e32']; simp only [vp_updL]; rw [if_neg (by omega)]; exact k4 j (by omega) h2

  refine cC.of (ls := [(0, .ref (ad p)), (1, .int (nI n))]) (by decide) (Nat.le_of_ble_eq_true rfl) rfl fun M N S hM => ?_

  refine x_aload_n (q := 1) dX5_addReaction_0 rfl rfl ?_
  refine c_get (q := 4) (k := p) (f := 4) hM (cE_pr _ _ hp) xclX5 fwX5_22 (by decide) dX5_addReaction_1 rfl rfl ?_
  refine x_iload_n (q := 5) dX5_addReaction_4 rfl rfl ?_
  refine xn_iconst (q := 6) 1 dX5_addReaction_5 rfl (by decide) ?_
  refine c_zast (q := 7) (k := (21 + 3 * p)) (n := 4) hM (by omega) (fun _ => (cE_pa _ _ hp)) (by decide) dX5_addReaction_6 rfl (by omega) (by decide) (fun M σ6 a6 e6 b6 hM => ?_)
  refine xn_iconst (q := 8) 0 dX5_addReaction_7 rfl (by decide) ?_
  refine x_istore_n (q := 9) (ls' := [(0, _), (1, _), (2, _)]) [1, 2, 0] dX5_addReaction_8 rfl (by decide) rfl ?_
  exact loop 10 0 σ6 M N S (by decide) (w2 _ _ a6) e6 (fun j hj => absurd hj (Nat.not_lt_zero j)) (fun j _ h2 => by rw [a6 _ n4.2.1]; exact hf j h2) hM

end XC7
