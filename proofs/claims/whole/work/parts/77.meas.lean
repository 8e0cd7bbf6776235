section XD3
def meP (c : mCf) (lf : Nat → Int) (gn ow : Int) (i j : Nat) : Int := prI (frP c) (swP c 10).1 lf (shP c i j (fun _ => 0)) 10 * gn + (swP c 10).2.1 * ow
theorem Fk.fz {σ : cZ} {c : mCf} (h : Fk σ c) : Fz σ c := ⟨h.1, h.2.1, h.2.2.2.1⟩
theorem Fk.of_kp {ks : List Nat} {σ σ' : cZ} {c : mCf} (h : Fk σ c) (k : kp ks σ σ') (hn : ∀ j ∈ ks, j ≠ 4 ∧ j ≠ 28 ∧ j ≠ 29 ∧ j ≠ 31 ∧ j ≠ 32 ∧ ¬ (100 ≤ j ∧ j < 156) ∧ ¬ (200 ≤ j ∧ j < 256)) : Fk σ' c := by
  have n : ∀ j, (j = 4 ∨ j = 28 ∨ j = 29 ∨ j = 31 ∨ j = 32 ∨ j = 155 ∨ j = 255) → j ∉ ks := fun j hj hm => by
    have := hn j hm
    omega
  obtain ⟨h1, h2, h3, h4, h5, h6, h7⟩ := h
  refine ⟨by rw [k 4 (n 4 (by omega))]; exact h1, by rw [k 28 (n 28 (by omega))]; exact h2, by rw [k 29 (n 29 (by omega))]; exact h3, by rw [k 32 (n 32 (by omega))]; exact h4, h5.keep k (fun j hj => by have := hn j hj; omega), k.bg (n 155 (by omega)) (n 255 (by omega)) h6, fun s hs => by rw [k 31 (n 31 (by omega))]; exact h7 s hs⟩
theorem me_ne {p b : Nat} (hp : p = 5 ∨ p = 6) (hb : 159 ≤ b ∧ b < 180) (hbp : b ≠ 155 + p) : (159 ≤ 155 + p ∧ 155 + p < 180) ∧ isBg b ∧ isBg (155 + p) ∧ b ≠ 155 ∧ (∀ j ∈ [157, 257, 155 + p, 155 + p + 100], j ≠ 4 ∧ j ≠ 28 ∧ j ≠ 29 ∧ j ≠ 31 ∧ j ≠ 32 ∧ ¬ (100 ≤ j ∧ j < 156) ∧ ¬ (200 ≤ j ∧ j < 256)) ∧ (∀ j ∈ [b, b + 100], j ≠ 4 ∧ j ≠ 28 ∧ j ≠ 29 ∧ j ≠ 31 ∧ j ≠ 32 ∧ ¬ (100 ≤ j ∧ j < 156) ∧ ¬ (200 ≤ j ∧ j < 256)) ∧ ((155 + p) ∉ [b, b + 100] ∧ 155 + p + 100 ∉ [b, b + 100]) ∧ p ∉ [157, 257, 155 + p, 155 + p + 100, b, b + 100] ∧ (19 + 3 * p) ∉ [157, 257, 155 + p, 155 + p + 100, b, b + 100] ∧ (20 + 3 * p) ∉ [157, 257, 155 + p, 155 + p + 100, b, b + 100] ∧ (21 + 3 * p) ∉ [157, 257, 155 + p, 155 + p + 100, b, b + 100] := by
  unfold isBg
  simp
  omega
theorem pr_lt10 {c : mCf} (hfo : frOk c) {lf rg : Nat → Int} (hl : sm3 lf) (hr : sm3 rg) : (prI (frP c) (swP c 10).1 lf rg 10).natAbs < B9 ^ 36 := prI_lt (hfo 10 (Nat.le_refl _)).1 hl hr 10 (Nat.le_refl _)
theorem me_lt {c : mCf} (hfo : frOk c) {lf : Nat → Int} {gn ow : Int} {i j : Nat} (hl : sm3 lf) (hr : sm3 (shP c i j (fun _ => 0))) (hg : gn.natAbs ≤ 3000000000) (ho : ow.natAbs ≤ 3000000000) : (meP c lf gn ow i j).natAbs < B9 ^ 39 := by
  unfold meP
  have h1 := B9m (pr_lt10 hfo hl hr) (B9_2 hg)
  have h2 := B9m (hfo 10 (Nat.le_refl _)).2 (B9_2 ho)
  exact B9a (a := 38) h1 (B9up h2 (by decide))
theorem Pb.of_kp {ks : List Nat} {σ σ' : cZ} {p w k q : Nat} {lf : Nat → Int} {gn wh : Int} {as : Nat → Bool} (h : Pb σ p w k q lf gn wh as) (kk : kp ks σ σ') (h1 : p ∉ ks) (h2 : 19 + 3 * p ∉ ks) (h3 : 21 + 3 * p ∉ ks) : Pb σ' p w k q lf gn wh as := by
  unfold Pb at *
  rw [kk p h1, kk _ h2, kk _ h3]
  exact h
theorem Pl.of_kp {ks : List Nat} {σ σ' : cZ} {c : mCf} {p k q : Nat} (h : Pl σ c p k q) (kk : kp ks σ σ') (h1 : p ∉ ks) (h2 : 20 + 3 * p ∉ ks) : Pl σ' c p k q := by
  unfold Pl at *
  rw [kk p h1, kk _ h2]
  exact h

set_option maxRecDepth 100000 in
set_option maxHeartbeats 4000000 in
theorem b_measure (G : xG) (l : Launch) (ad : Nat → Nat) (F : xM) (R : Nat × Nat) (d : Nat) (σ : cZ) (p : Nat) (hp : p = 5 ∨ p = 6) (b : Nat) (hb0 : 159 ≤ b ∧ b < 180) (hbp : b ≠ 155 + p) (c : mCf) (hc : Bm σ 1 c) (hok : okL c) (hfo : frOk c) (hF : Fk σ c) (w k q i j : Nat) (lf : Nat → Int) (gn wh : Int) (as : Nat → Bool) (hr : okRow c (w, k, q)) (hP : Pb σ p w k q lf gn wh as) (hL : Pl σ c p i j) (hi : i < c.m) (hj : j ≤ 4) (hsl : sm3 lf) (hg : gn.natAbs ≤ 3000000000) : cC G l ad F R YX5_measure (d + 5) [.ref (ad p), .ref (ad b)] σ (fun r σ' => r = none ∧ kp [157, 257, 155 + p, 155 + p + 100, b, b + 100] σ σ' ∧ Bg σ' b (meP c lf gn (owP c w k q i j as) i j)) := by
  obtain ⟨m1, hb, hpb, m4, m5, m6, m7, m8, m9, m10, m11⟩ := me_ne hp hb0 hbp
  have hrs : sm3 (shP c i j (fun _ => 0)) := fun s _ => Nat.le_trans (shP_le hok hi hj s) (by decide)
  have ho := owP_le hok hr hi hj as
  have hbd := (hfo 10 (Nat.le_refl _))
  have x1 : (prI (frP c) (swP c 10).1 lf (shP c i j (fun _ => 0)) 10).natAbs < B9 ^ 1000 := B9up (pr_lt10 hfo hsl hrs) (by decide)
  have x2 : (swP c 10).2.1.natAbs < B9 ^ 1000 := B9up hbd.2 (by decide)
  have x3 : (prI (frP c) (swP c 10).1 lf (shP c i j (fun _ => 0)) 10 * gn).natAbs < B9 ^ 1000 := B9up (B9m (pr_lt10 hfo hsl hrs) (B9_2 hg)) (by decide)
  have x0 : (0 : Int).natAbs < B9 ^ 1000 := by rw [Int.natAbs_zero]; exact B9_pos _
  have hta : 19 + 3 * p < 40 ∧ 20 + 3 * p < 40 := by clear x1 x2 x3 ho hg hbd; omega
  have w1 : ∀ (τ τ' : cZ), kp [157, 257, 155 + p, 155 + p + 100] τ τ' → kp [157, 257, 155 + p, 155 + p + 100, b, b + 100] τ τ' := fun τ τ' h => h.mono (fun s hs => by simp at hs ⊢; clear x1 x2 x3 ho hg hbd; omega)
  have w2 : ∀ (τ τ' : cZ), kp [b, b + 100] τ τ' → kp [157, 257, 155 + p, 155 + p + 100, b, b + 100] τ τ' := fun τ τ' h => h.mono (fun s hs => by simp at hs ⊢; clear x1 x2 x3 ho hg hbd; omega)
  have hbne : b ≠ 155 + p := hbp
  refine cC.of (ls := [(0, .ref (ad p)), (1, .ref (ad b))]) (by decide) (Nat.le_of_ble_eq_true rfl) rfl fun M N S hM => ?_

  refine x_aload_n (q := 1) dX5_measure_0 rfl rfl ?_
  refine c_get (q := 4) (k := p) (f := 1) hM (cE_pr _ _ hp) xclX5 fwX5_37 (by decide) dX5_measure_1 rfl rfl ?_
  refine x_aload_n (q := 5) dX5_measure_4 rfl rfl ?_
  refine c_get (q := 8) (k := p) (f := 2) hM (cE_pr _ _ hp) xclX5 fwX5_11 (by decide) dX5_measure_5 rfl rfl ?_
  refine x_aload_n (q := 9) dX5_measure_8 rfl rfl ?_
  refine c_get (q := 12) (k := p) (f := 3) hM (cE_pr _ _ hp) xclX5 fwX5_17 (by decide) dX5_measure_9 rfl rfl ?_
  refine x_aload_n (q := 13) dX5_measure_12 rfl rfl ?_
  refine c_get (q := 16) (k := p) (f := 5) hM (cE_pr _ _ hp) xclX5 fwX5_29 (by decide) dX5_measure_13 rfl rfl ?_
  refine c_call (q := 19) (k := 4) (As := [_, _, _]) hM rfl imX4_pair ivX4_pair ilX4_pair mwX5_89 xciX4 dX5_measure_16 rfl rfl rfl (Nat.le_of_ble_eq_true rfl) ?_
  refine (b_pair G l ad F R (d + 0) σ (frP c) (swP c 10).1 lf (shP c i j (fun _ => 0)) hF.2.2.2.2.1 hF.2.2.1 hbd.1 (19 + 3 * p) (20 + 3 * p) (155 + p) hta.1 hta.2 m1 (fun τ => cE_pl ad τ hp) (fun τ => cE_pq ad τ hp) hP.2.2.2.1 hL.2.2 hsl hrs).mono (fun x9 σ16 hp => ?_)
  obtain ⟨rfl, q1, q2⟩ := hp
  intro M N S hM
  show xX G l _ (d + 5) _ _ _ _ M N S
  have hF16 : Fk σ16 c := hF.of_kp q1 m5
  refine x_aload_n (q := 20) dX5_measure_19 rfl rfl ?_
  refine xn_lconst (q := 21) 0 dX5_measure_20 rfl (by decide) ?_
  refine x_topl (y := iL 0) rfl ?_
  refine c_call (q := 24) (k := b) (As := [_]) hM (cE_big _ _ hb) imX2_takeLong ivX2_takeLong ilX2_takeLong mwX5_93 xciX2 dX5_measure_21 rfl rfl rfl (Nat.le_of_ble_eq_true rfl) ?_
  refine (b_takeLong G l ad F R (d + 3) σ16 b hb 0 (by decide)).mono (fun x9 σ21 hp => ?_)
  obtain ⟨rfl, r1, r2⟩ := hp
  intro M N S hM
  show xX G l _ (d + 5) _ _ _ _ M N S
  have hF21 : Fk σ21 c := hF16.of_kp r1 m6
  have k21 : kp [157, 257, 155 + p, 155 + p + 100, b, b + 100] σ σ21 := (w1 _ _ q1).trans (w2 _ _ r1)
  refine x_aload_n (q := 25) dX5_measure_24 rfl rfl ?_
  refine x_aload_n (q := 26) dX5_measure_25 rfl rfl ?_
  refine c_get (q := 29) (k := p) (f := 5) hM (cE_pr _ _ hp) xclX5 fwX5_29 (by decide) dX5_measure_26 rfl rfl ?_
  refine x_aload_n (q := 30) dX5_measure_29 rfl rfl ?_
  refine c_get (q := 33) (k := p) (f := 11) hM (cE_pr _ _ hp) xclX5 fwX5_97 (by decide) dX5_measure_30 rfl rfl ?_
  refine x_topl (y := iL gn) (by rw [k21 p m8]; exact hP.2.1) ?_
  refine c_call (q := 36) (k := b) (As := [_, _]) hM (cE_big _ _ hb) imX2_addTimes ivX2_addTimes ilX2_addTimes mwX5_101 xciX2 dX5_measure_33 rfl rfl rfl (Nat.le_of_ble_eq_true rfl) ?_
  refine (b_addTimes G l ad F R (d + 1) σ21 b (155 + p) hb hpb hbne 0 _ gn r2 (r1.bg m7.1 m7.2 q2) hg x0 x1).mono (fun x9 σ33 hp => ?_)
  obtain ⟨rfl, t1, t2⟩ := hp
  intro M N S hM
  show xX G l _ (d + 5) _ _ _ _ M N S
  rw [Int.zero_add] at t2
  have hF33 : Fk σ33 c := hF21.of_kp t1 m6
  have kz : kp [157, 257, 155 + p, 155 + p + 100, b, b + 100] σ σ33 := k21.trans (w2 _ _ t1)
  have hc33 : Bm σ33 1 c := bmk' hc kz (by intro s hs; simp at hs; clear x1 x2 x3 ho hg hbd; omega)
  refine x_aload_n (q := 37) dX5_measure_36 rfl rfl ?_
  refine x_aload_n (q := 38) dX5_measure_37 rfl rfl ?_
  refine c_get (q := 41) (k := p) (f := 1) hM (cE_pr _ _ hp) xclX5 fwX5_37 (by decide) dX5_measure_38 rfl rfl ?_
  refine c_call (q := 44) (k := 4) (As := []) hM rfl imX4_divisor ivX4_divisor ilX4_divisor mwX5_105 xciX4 dX5_measure_41 rfl rfl rfl (Nat.le_of_ble_eq_true rfl) ?_
  refine (b_divisor G l ad F R (d + 4) σ33).mono (fun x9 σ9' hp => ?_)
  obtain ⟨rfl, e9⟩ := hp
  intro M N S hM
  rw [e9] at hM; clear e9 σ9'
  show xX G l _ (d + 5) _ _ _ _ M N S
  refine x_aload_n (q := 45) dX5_measure_44 rfl rfl ?_
  refine c_call (q := 48) (k := p) (As := []) hM (cE_pr _ _ hp) imX5_ownPart ivX5_ownPart ilX5_ownPart mwX5_109 xciX5 dX5_measure_45 rfl rfl rfl (Nat.le_of_ble_eq_true rfl) ?_
  refine (b_ownPart G l ad F R (d + 3) σ33 p hp c hc33 hok hF33.fz w k q i j lf gn wh as hr (hP.of_kp kz m8 m9 m11) (hL.of_kp kz m8 m10) hi hj).mono (fun x9 σ9' hp => ?_)
  obtain ⟨rfl, e9⟩ := hp
  intro M N S hM
  rw [e9] at hM; clear e9 σ9'
  show xX G l _ (d + 5) _ _ _ _ M N S
  refine c_call (q := 51) (k := b) (As := [_, _]) hM (cE_big _ _ hb) imX2_addTimes ivX2_addTimes ilX2_addTimes mwX5_101 xciX2 dX5_measure_48 rfl rfl rfl (Nat.le_of_ble_eq_true rfl) ?_
  refine (b_addTimes G l ad F R (d + 1) σ33 b 155 hb ⟨by decide, by decide⟩ m4 _ _ _ t2 hF33.2.2.2.2.2.1 ho x3 x2).mono (fun x9 σ48 hp => ?_)
  obtain ⟨rfl, u1, u2⟩ := hp
  intro M N S hM
  show xX G l _ (d + 5) _ _ _ _ M N S
  exact x_vret rfl dX5_measure_51 (c_ret hM ⟨rfl, kz.trans (w2 _ _ u1), u2⟩)

def oneP (n : Nat) : Nat → Int := fun i => if i = n then 1 else 0
def plP (c : mCf) (h : Nat) : Nat → Int := fun i => -puP c (i * 10 + h)
theorem oneP_sm (n : Nat) : sm3 (oneP n) := fun i _ => by unfold oneP; split <;> decide
theorem plP_sm {c : mCf} (hok : okL c) {h : Nat} (hh : h < 10) : sm3 (plP c h) := fun i hi => by
  unfold plP
  rw [Int.natAbs_neg]
  have h1 := puP_le hok (s := i) (t := h) hi hh
  have h2 := adj_le c i c.m
  have hm := hok.1
  exact Nat.le_trans h1 (Nat.le_trans (Nat.mul_le_mul_right _ (show adj c i c.m ≤ 3 by omega)) (by decide))

set_option maxRecDepth 100000 in
set_option maxHeartbeats 4000000 in
theorem b_follow (G : xG) (l : Launch) (ad : Nat → Nat) (F : xM) (R : Nat × Nat) (d : Nat) (σ : cZ) (p : Nat) (hp : p = 5 ∨ p = 6) (b : Nat) (hb0 : 159 ≤ b ∧ b < 180) (c : mCf) (hok : okL c) (hfo : frOk c) (hF : Fk σ c) (n h : Nat) (hn : n < 4) (hh : h < 4) : cC G l ad F R YX5_followSettled (d + 5) [.ref (ad p), .int (nI n), .int (nI h), .ref (ad b)] σ (fun r σ' => r = none ∧ kp [19 + 3 * p, 20 + 3 * p, 157, 257, b, b + 100] σ σ' ∧ Bg σ' b (prI (frP c) (swP c 10).1 (oneP n) (plP c h) 10)) := by
  have hb : isBg b := by unfold isBg; omega
  have n4 : (19 + 3 * p < 40 ∧ 20 + 3 * p < 40) ∧ (19 + 3 * p) ∉ [20 + 3 * p] ∧ (∀ j ∈ [19 + 3 * p, 20 + 3 * p], j ≠ 4 ∧ j ≠ 28 ∧ j ≠ 29 ∧ j ≠ 31 ∧ j ≠ 32 ∧ ¬ (100 ≤ j ∧ j < 156) ∧ ¬ (200 ≤ j ∧ j < 256)) ∧ 32 ∉ [19 + 3 * p, 20 + 3 * p] := by simp; omega
  have w1 : ∀ (τ τ' : cZ), kp [19 + 3 * p] τ τ' → kp [19 + 3 * p, 20 + 3 * p] τ τ' := fun τ τ' h => h.mono (fun s hs => by simp at hs ⊢; omega)
  have w2 : ∀ (τ τ' : cZ), kp [20 + 3 * p] τ τ' → kp [19 + 3 * p, 20 + 3 * p] τ τ' := fun τ τ' h => h.mono (fun s hs => by simp at hs ⊢; omega)
  have w3 : ∀ (τ τ' : cZ), kp [19 + 3 * p, 20 + 3 * p] τ τ' → kp [19 + 3 * p, 20 + 3 * p, 157, 257, b, b + 100] τ τ' := fun τ τ' h => h.mono (fun s hs => by simp at hs ⊢; omega)
  have w4 : ∀ (τ τ' : cZ), kp [157, 257, b, b + 100] τ τ' → kp [19 + 3 * p, 20 + 3 * p, 157, 257, b, b + 100] τ τ' := fun τ τ' h => h.mono (fun s hs => by simp at hs ⊢; omega)
  have loop : ∀ (u i : Nat) (σ1 : cZ) (M : xM) (N S : Nat), i + u = 10 → kp [19 + 3 * p, 20 + 3 * p] σ σ1 → (∀ s, s < 10 → (σ1 (19 + 3 * p)).2.1 s = iL (oneP n s)) → (∀ s, s < i → (σ1 (20 + 3 * p)).2.1 s = iL (plP c h s)) → cA G ad F R σ1 M N S → xX G l YX5_followSettled (d + 5) (cQ G ad F R (fun r σ' => r = none ∧ kp [19 + 3 * p, 20 + 3 * p, 157, 257, b, b + 100] σ σ' ∧ Bg σ' b (prI (frP c) (swP c 10).1 (oneP n) (plP c h) 10))) 18 [(0, .ref (ad p)), (1, .int (nI n)), (2, .int (nI h)), (3, .ref (ad b)), (4, .int (nI i))] [] M N S := by
    intro u
    induction u with
    | zero =>
      intro i σ1 M N S hi k1 k2 k3 hM
      have hF1 : Fk σ1 c := hF.of_kp k1 n4.2.2.1
      have hbd := (hfo 10 (Nat.le_refl _)).1

      refine x_iload (q := 20) dX5_followSettled_18 rfl rfl ?_
      refine xn_bipush (q := 22) 10 dX5_followSettled_20 rfl (by decide) ?_
      refine xn_icmp_ge (q := 25) 49 dX5_followSettled_22 (by decide) rfl (by omega) (by omega) (fun hc22 => ?_) (fun hc22 => absurd hc22 (by omega))
      refine x_aload_n (q := 50) dX5_followSettled_49 rfl rfl ?_
      refine c_get (q := 53) (k := p) (f := 1) hM (cE_pr _ _ hp) xclX5 fwX5_37 (by decide) dX5_followSettled_50 rfl rfl ?_
      refine x_aload_n (q := 54) dX5_followSettled_53 rfl rfl ?_
      refine c_get (q := 57) (k := p) (f := 2) hM (cE_pr _ _ hp) xclX5 fwX5_11 (by decide) dX5_followSettled_54 rfl rfl ?_
      refine x_aload_n (q := 58) dX5_followSettled_57 rfl rfl ?_
      refine c_get (q := 61) (k := p) (f := 3) hM (cE_pr _ _ hp) xclX5 fwX5_17 (by decide) dX5_followSettled_58 rfl rfl ?_
      refine x_aload_n (q := 62) dX5_followSettled_61 rfl rfl ?_
      refine c_call (q := 65) (k := 4) (As := [_, _, _]) hM rfl imX4_pair ivX4_pair ilX4_pair mwX5_89 xciX4 dX5_followSettled_62 rfl rfl rfl (Nat.le_of_ble_eq_true rfl) ?_
      refine (b_pair G l ad F R (d + 0) σ1 (frP c) (swP c 10).1 (oneP n) (plP c h) hF1.2.2.2.2.1 hF1.2.2.1 hbd (19 + 3 * p) (20 + 3 * p) b n4.1.1 n4.1.2 hb0 (fun τ => cE_pl ad τ hp) (fun τ => cE_pq ad τ hp) k2 (fun s hs => k3 s (by omega)) (oneP_sm n) (plP_sm hok (by omega))).mono (fun x9 σ62 hp => ?_)
      obtain ⟨rfl, q1, q2⟩ := hp
      intro M N S hM
      show xX G l _ (d + 5) _ _ _ _ M N S
      exact x_vret rfl dX5_followSettled_65 (c_ret hM ⟨rfl, (w3 _ _ k1).trans (w4 _ _ q1), q2⟩)

    | succ u ih =>
      intro i σ1 M N S hi k1 k2 k3 hM
      have e32 : (σ1 32).2.1 (i * 10 + h) = iL (puP c (i * 10 + h)) := by rw [k1 32 n4.2.2.2]; exact hF.2.2.2.1 _ (by omega)

      refine x_iload (q := 20) dX5_followSettled_18 rfl rfl ?_
      refine xn_bipush (q := 22) 10 dX5_followSettled_20 rfl (by decide) ?_
      refine xn_icmp_ge (q := 25) 49 dX5_followSettled_22 (by decide) rfl (by omega) (by omega) (fun hc22 => absurd hc22 (by omega)) (fun hc22 => ?_)
      refine x_aload_n (q := 26) dX5_followSettled_25 rfl rfl ?_
      refine c_get (q := 29) (k := p) (f := 3) hM (cE_pr _ _ hp) xclX5 fwX5_17 (by decide) dX5_followSettled_26 rfl rfl ?_
      refine x_iload (q := 31) dX5_followSettled_29 rfl rfl ?_
      refine x_aload_n (q := 32) dX5_followSettled_31 rfl rfl ?_
      refine c_get (q := 35) (k := p) (f := 1) hM (cE_pr _ _ hp) xclX5 fwX5_37 (by decide) dX5_followSettled_32 rfl rfl ?_
      refine x_iload (q := 37) dX5_followSettled_35 rfl rfl ?_
      refine x_iload_n (q := 38) dX5_followSettled_37 rfl rfl ?_
      refine c_call (q := 41) (k := 4) (As := [_, _]) hM rfl imX4_pullOf ivX4_pullOf ilX4_pullOf mwX5_116 xciX4 dX5_followSettled_38 rfl rfl rfl (Nat.le_of_ble_eq_true rfl) ?_
      refine (b_pullOf G l ad F R (d + 4) σ1 i h (by omega) (by omega)).mono (fun x9 σ9' hp => ?_)
      obtain ⟨rfl, e9⟩ := hp
      intro M N S hM
      rw [e9] at hM; clear e9 σ9'
      show xX G l _ (d + 5) _ _ _ _ M N S
      refine x_topl (y := iL (puP c (i * 10 + h))) (by exact e32) ?_
      refine xi_lneg (q := 42) dX5_followSettled_41 rfl rfl ?_
      refine c_last (q := 43) (k := (20 + 3 * p)) (n := 10) hM (by omega) (fun _ => (cE_pq _ _ hp)) (by decide) dX5_followSettled_42 rfl (by omega) (fun M σ42 a42 e42 b42 hM => ?_)
      refine xn_iinc (q := 46) (ls' := [(0, _), (1, _), (2, _), (3, _), (4, _)]) [1, 2, 3, 4, 0] 1 dX5_followSettled_43 rfl rfl (by decide) (by decide) rfl ?_
      refine x_goto 18 dX5_followSettled_46 (by decide) ?_
      refine ih (i + 1) σ42 M N S (by omega) (k1.trans (w2 _ _ a42)) (fun s hs => by rw [a42 _ n4.2.1]; exact k2 s hs) (fun s hs => ?_) hM
      rw [e42]
      by_cases es : s = i
      · rw [es]; simp only [vp_updL, if_true]; rfl
      · simp only [vp_updL, if_neg es]; exact k3 s (by omega)

  refine cC.of (ls := [(0, .ref (ad p)), (1, .int (nI n)), (2, .int (nI h)), (3, .ref (ad b))]) (by decide) (Nat.le_of_ble_eq_true rfl) rfl fun M N S hM => ?_

  refine x_aload_n (q := 1) dX5_followSettled_0 rfl rfl ?_
  refine c_get (q := 4) (k := p) (f := 2) hM (cE_pr _ _ hp) xclX5 fwX5_11 (by decide) dX5_followSettled_1 rfl rfl ?_
  refine xn_lconst (q := 5) 0 dX5_followSettled_4 rfl (by decide) ?_
  refine c_callS (q := 8) (As := [_, _]) hM imJ7_fill_d0a16 isJ7_fill_d0a16 mwX5_51 dX5_followSettled_5 rfl rfl rfl (Nat.le_of_ble_eq_true rfl) ?_
  refine (b_fill G l ad F R (d + 4) σ (19 + 3 * p) 10 (lN 0) n4.1.1 (fun τ => cE_pl ad τ hp) (by decide)).mono (fun x9 σ5 hp => ?_)
  obtain ⟨rfl, q1, q2, q3⟩ := hp
  intro M N S hM
  show xX G l _ (d + 5) _ _ _ _ M N S
  refine x_aload_n (q := 9) dX5_followSettled_8 rfl rfl ?_
  refine c_get (q := 12) (k := p) (f := 2) hM (cE_pr _ _ hp) xclX5 fwX5_11 (by decide) dX5_followSettled_9 rfl rfl ?_
  refine x_iload_n (q := 13) dX5_followSettled_12 rfl rfl ?_
  refine xn_lconst (q := 14) 1 dX5_followSettled_13 rfl (by decide) ?_
  refine c_last (q := 15) (k := (19 + 3 * p)) (n := 10) hM (by omega) (fun _ => (cE_pl _ _ hp)) (by decide) dX5_followSettled_14 rfl (by omega) (fun M σ14 a14 e14 b14 hM => ?_)
  refine xn_iconst (q := 16) 0 dX5_followSettled_15 rfl (by decide) ?_
  refine x_istore (q := 18) (ls' := [(0, _), (1, _), (2, _), (3, _), (4, _)]) [1, 2, 3, 4, 0] dX5_followSettled_16 rfl (by decide) rfl ?_
  refine loop 10 0 σ14 M N S (by decide) ((w1 _ _ q1).trans (w1 _ _ a14)) (fun s hs => ?_) (fun s hs => absurd hs (Nat.not_lt_zero s)) hM
  rw [e14]; unfold oneP
  by_cases es : s = n
  · rw [es, if_pos rfl]; simp only [vp_updL, if_true]; rfl
  · rw [if_neg es]; simp only [vp_updL, if_neg es]; exact q2 s hs

end XD3
