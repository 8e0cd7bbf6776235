section XC8
def lfP (c : mCf) (w k q : Nat) : Nat → Int := if w = 0 then lfM c k q else if w = 2 then shP c k q (fun _ => 0) else if w = 3 then (fun i => 0 + puP c (k * 10 + i)) else lfS c k
def gnP (c : mCf) (w k : Nat) : Int := if w = 0 then ((2 * c.E k * rtP c k : Nat) : Int) else if w = 2 then ((6 * c.E k * scP c c.m : Nat) : Int) else if w = 3 then -1 else ((-6 : Int) * ((c.E k : Nat) : Int)) * ((rtP c k : Nat) : Int) * ((rtP c k : Nat) : Int)
def whP (c : mCf) (w k : Nat) : Int := if w = 0 then 256 else if w = 2 then ((24576 * c.E k : Nat) : Int) else ((64 * scP c c.m : Nat) : Int)
/-- a probe is aimed: what, beam, place, the left side, gain, whole, the nodes that are asked -/
def Pb (σ : cZ) (p w k q : Nat) (lf : Nat → Int) (gn wh : Int) (as : Nat → Bool) : Prop := ((σ p).1 6 = nI w ∧ (σ p).1 7 = nI k ∧ (σ p).1 8 = nI q) ∧ (σ p).2.1 11 = iL gn ∧ (σ p).2.1 12 = iL wh ∧ (∀ i, i < 10 → (σ (19 + 3 * p)).2.1 i = iL (lf i)) ∧ (w = 3 → ∀ i, i < 4 → (σ (21 + 3 * p)).1 i = bI (as i))

set_option maxRecDepth 100000 in
set_option maxHeartbeats 4000000 in
theorem b_aim (G : xG) (l : Launch) (ad : Nat → Nat) (F : xM) (R : Nat × Nat) (d : Nat) (σ : cZ) (p : Nat) (hp : p = 5 ∨ p = 6) (c : mCf) (hc : Bm σ 1 c) (hok : okL c) (hz : Fz σ c) (w k q : Nat) (hr : okRow c (w, k, q)) : cC G l ad F R YX5_aim (d + 3) [.ref (ad p), .int (nI w), .int (nI k), .int (nI q)] σ (fun r σ' => r = none ∧ kp [p, 19 + 3 * p, 21 + 3 * p] σ σ' ∧ Pb σ' p w k q (lfP c w k q) (gnP c w k) (whP c w k) (fun i => decide (i = k))) := by
  have hr' : (w ≤ 2 ∧ k < c.m ∧ q ≤ 4) ∨ (w = 3 ∧ k ≤ c.m ∧ q = 0) := hr
  have h0 := hc.1
  have n4 : p ∉ [19 + 3 * p] ∧ p ∉ [19 + 3 * p, 21 + 3 * p] ∧ (4 ∉ [p, 19 + 3 * p, 21 + 3 * p] ∧ 28 ∉ [p, 19 + 3 * p, 21 + 3 * p] ∧ 32 ∉ [p, 19 + 3 * p, 21 + 3 * p]) ∧ (19 + 3 * p) ∉ [p, 21 + 3 * p] ∧ 19 + 3 * p < 40 ∧ (21 + 3 * p) ∉ [p, 19 + 3 * p] := by simp; omega
  have w1 : ∀ (τ τ' : cZ), kp [p] τ τ' → kp [p, 19 + 3 * p, 21 + 3 * p] τ τ' := fun τ τ' h => h.mono (fun j hj => by simp at hj ⊢; omega)
  have w2 : ∀ (τ τ' : cZ), kp [19 + 3 * p] τ τ' → kp [p, 19 + 3 * p, 21 + 3 * p] τ τ' := fun τ τ' h => h.mono (fun j hj => by simp at hj ⊢; omega)
  have w3 : ∀ (τ τ' : cZ), kp [p, 19 + 3 * p] τ τ' → kp [p, 19 + 3 * p, 21 + 3 * p] τ τ' := fun τ τ' h => h.mono (fun j hj => by simp at hj ⊢; omega)
  have w4 : ∀ (τ τ' : cZ), kp [p, 21 + 3 * p] τ τ' → kp [p, 19 + 3 * p, 21 + 3 * p] τ τ' := fun τ τ' h => h.mono (fun j hj => by simp at hj ⊢; omega)
  have w5 : ∀ (τ τ' : cZ), kp [19 + 3 * p, 21 + 3 * p] τ τ' → kp [p, 19 + 3 * p, 21 + 3 * p] τ τ' := fun τ τ' h => h.mono (fun j hj => by simp at hj ⊢; omega)
  refine cC.of (ls := [(0, .ref (ad p)), (1, .int (nI w)), (2, .int (nI k)), (3, .int (nI q))]) (by decide) (Nat.le_of_ble_eq_true rfl) rfl fun M N S hM => ?_

  refine x_aload_n (q := 1) dX5_aim_0 rfl rfl ?_
  refine x_iload_n (q := 2) dX5_aim_1 rfl rfl ?_
  refine c_puti (q := 5) (k := p) (f := 6) hM (cE_pr _ _ hp) (by rw [cE_pr _ _ hp, mu_s]; rfl) xclX5 fwX5_41 (by decide) rfl rfl (Nat.le_of_ble_eq_true rfl) dX5_aim_2 rfl rfl rfl (fun M σ2 a2 e2 b2 hM => ?_)
  refine x_aload_n (q := 6) dX5_aim_5 rfl rfl ?_
  refine x_iload_n (q := 7) dX5_aim_6 rfl rfl ?_
  refine c_puti (q := 10) (k := p) (f := 7) hM (cE_pr _ _ hp) (by rw [cE_pr _ _ hp, mu_s]; rfl) xclX5 fwX5_45 (by decide) rfl rfl (Nat.le_of_ble_eq_true rfl) dX5_aim_7 rfl rfl rfl (fun M σ7 a7 e7 b7 hM => ?_)
  refine x_aload_n (q := 11) dX5_aim_10 rfl rfl ?_
  refine x_iload_n (q := 12) dX5_aim_11 rfl rfl ?_
  refine c_puti (q := 15) (k := p) (f := 8) hM (cE_pr _ _ hp) (by rw [cE_pr _ _ hp, mu_s]; rfl) xclX5 fwX5_48 (by decide) rfl rfl (Nat.le_of_ble_eq_true rfl) dX5_aim_12 rfl rfl rfl (fun M σ12 a12 e12 b12 hM => ?_)
  refine x_aload_n (q := 16) dX5_aim_15 rfl rfl ?_
  refine c_get (q := 19) (k := p) (f := 2) hM (cE_pr _ _ hp) xclX5 fwX5_11 (by decide) dX5_aim_16 rfl rfl ?_
  refine xn_lconst (q := 20) 0 dX5_aim_19 rfl (by decide) ?_
  refine c_callS (q := 23) (As := [_, _]) hM imJ7_fill_d0a16 isJ7_fill_d0a16 mwX5_51 dX5_aim_20 rfl rfl rfl (Nat.le_of_ble_eq_true rfl) ?_
  refine (b_fill G l ad F R (d + 2) σ12 (19 + 3 * p) 10 (lN 0) n4.2.2.2.2.1 (fun τ => cE_pl ad τ hp) (by decide)).mono (fun x9 σ20 hp => ?_)
  obtain ⟨rfl, q1, q2, q3⟩ := hp
  intro M N S hM
  show xX G l _ (d + 3) _ _ _ _ M N S
  have kz : kp [p, 19 + 3 * p, 21 + 3 * p] σ σ20 := (w1 _ _ a2).trans ((w1 _ _ a7).trans ((w1 _ _ a12).trans (w2 _ _ q1)))
  have hz20 : Fz σ20 c := hz.of_kp kz n4.2.2.1.1 n4.2.2.1.2.1 n4.2.2.1.2.2
  have hc20 : Bm σ20 1 c := bmk' hc kz (by intro j hj; simp at hj; omega)
  have hl20 : ∀ i, i < 10 → (σ20 (19 + 3 * p)).2.1 i = iL 0 := fun i hi => q2 i hi
  have g6 : (σ20 p).1 6 = nI w := by rw [q1 p n4.1, e12, mu_n (by decide), e7, mu_n (by decide), e2, mu_s]
  have g7 : (σ20 p).1 7 = nI k := by rw [q1 p n4.1, e12, mu_n (by decide), e7, mu_s]
  have g8 : (σ20 p).1 8 = nI q := by rw [q1 p n4.1, e12, mu_s]
  refine x_aload_n (q := 24) dX5_aim_23 rfl rfl ?_
  refine c_get (q := 27) (k := p) (f := 6) hM (cE_pr _ _ hp) xclX5 fwX5_41 (by decide) dX5_aim_24 rfl rfl ?_
  refine x_topi (y := nI w) (by exact g6) ?_

  rcases (by omega : w = 0 ∨ w = 1 ∨ w = 2 ∨ w = 3) with rfl | rfl | rfl | rfl

  · refine x_tableIn (29) 56 dX5_aim_27 (by decide) (by decide) (by decide) (by decide) ?_
    refine x_aload_n (q := 57) dX5_aim_56 rfl rfl ?_
    refine c_call (q := 60) (k := p) (As := []) hM (cE_pr _ _ hp) imX5_aimAtMoment ivX5_aimAtMoment ilX5_aimAtMoment mwX5_57 xciX5 dX5_aim_57 rfl rfl rfl (Nat.le_of_ble_eq_true rfl) ?_
    refine (b_aimAtMoment G l ad F R (d + 0) σ20 p hp c hc20 hok hz20 hl20 k (by omega) g7 q (by omega) g8).mono (fun x9 σ30 hp => ?_)
    obtain ⟨rfl, t1, t2, t3, t4, t5⟩ := hp
    intro M N S hM
    show xX G l _ (d + 3) _ _ _ _ M N S
    refine x_goto 89 dX5_aim_60 (by decide) ?_
    exact x_vret rfl dX5_aim_89 (c_ret hM ⟨rfl, kz.trans (w3 _ _ t1), ⟨by rw [t2]; exact g6, by rw [t2]; exact g7, by rw [t2]; exact g8⟩, t3, t4, t5, fun h => absurd h (by decide)⟩)

  · refine x_tableIn (58) 85 dX5_aim_27 (by decide) (by decide) (by decide) (by decide) ?_
    refine x_aload_n (q := 86) dX5_aim_85 rfl rfl ?_
    refine c_call (q := 89) (k := p) (As := []) hM (cE_pr _ _ hp) imX5_aimAtShear ivX5_aimAtShear ilX5_aimAtShear mwX5_70 xciX5 dX5_aim_86 rfl rfl rfl (Nat.le_of_ble_eq_true rfl) ?_
    refine (b_aimAtShear G l ad F R (d + 0) σ20 p hp c hc20 hok hz20 hl20 k (by omega) g7 ).mono (fun x9 σ30 hp => ?_)
    obtain ⟨rfl, t1, t2, t3, t4, t5⟩ := hp
    intro M N S hM
    show xX G l _ (d + 3) _ _ _ _ M N S
    exact x_vret rfl dX5_aim_89 (c_ret hM ⟨rfl, kz.trans (w3 _ _ t1), ⟨by rw [t2]; exact g6, by rw [t2]; exact g7, by rw [t2]; exact g8⟩, t3, t4, t5, fun h => absurd h (by decide)⟩)

  · refine x_tableIn (36) 63 dX5_aim_27 (by decide) (by decide) (by decide) (by decide) ?_
    refine x_aload_n (q := 64) dX5_aim_63 rfl rfl ?_
    refine c_call (q := 67) (k := p) (As := []) hM (cE_pr _ _ hp) imX5_aimAtMove ivX5_aimAtMove ilX5_aimAtMove mwX5_60 xciX5 dX5_aim_64 rfl rfl rfl (Nat.le_of_ble_eq_true rfl) ?_
    refine (b_aimAtMove G l ad F R (d + 0) σ20 p hp c hc20 hok hz20 hl20 k (by omega) g7 q (by omega) g8).mono (fun x9 σ30 hp => ?_)
    obtain ⟨rfl, t1, t2, t3, t4, t5⟩ := hp
    intro M N S hM
    show xX G l _ (d + 3) _ _ _ _ M N S
    refine x_goto 89 dX5_aim_67 (by decide) ?_
    exact x_vret rfl dX5_aim_89 (c_ret hM ⟨rfl, kz.trans (w3 _ _ t1), ⟨by rw [t2]; exact g6, by rw [t2]; exact g7, by rw [t2]; exact g8⟩, t3, t4, t5, fun h => absurd h (by decide)⟩)

  · refine x_tableIn (43) 70 dX5_aim_27 (by decide) (by decide) (by decide) (by decide) ?_
    refine x_aload_n (q := 71) dX5_aim_70 rfl rfl ?_
    refine c_call (q := 74) (k := p) (As := []) hM (cE_pr _ _ hp) imX5_aimAtReactions ivX5_aimAtReactions ilX5_aimAtReactions mwX5_63 xciX5 dX5_aim_71 rfl rfl rfl (Nat.le_of_ble_eq_true rfl) ?_
    refine (b_aimAtReactions G l ad F R (d + 1) σ20 p hp c hz20).mono (fun x9 σ30 hp => ?_)
    obtain ⟨rfl, t1, t2, t3, t4, t5⟩ := hp
    intro M N S hM
    show xX G l _ (d + 3) _ _ _ _ M N S
    have hz30 : Fz σ30 c := hz20.of_kp (w4 _ _ t1) n4.2.2.1.1 n4.2.2.1.2.1 n4.2.2.1.2.2
    have hl30 : ∀ i, i < 10 → (σ30 (19 + 3 * p)).2.1 i = iL 0 := fun i hi => by rw [t1 _ n4.2.2.2.1]; exact hl20 i hi
    refine x_aload_n (q := 75) dX5_aim_74 rfl rfl ?_
    refine x_aload_n (q := 76) dX5_aim_75 rfl rfl ?_
    refine c_get (q := 79) (k := p) (f := 7) hM (cE_pr _ _ hp) xclX5 fwX5_45 (by decide) dX5_aim_76 rfl rfl ?_
    refine x_topi (y := nI k) (by rw [t2]; exact g7) ?_
    refine c_call (q := 82) (k := p) (As := [_]) hM (cE_pr _ _ hp) imX5_addReaction ivX5_addReaction ilX5_addReaction mwX5_66 xciX5 dX5_aim_79 rfl rfl rfl (Nat.le_of_ble_eq_true rfl) ?_
    refine (b_addReaction G l ad F R (d + 1) σ30 p hp c hz30 (fun _ => 0) hl30 k (by omega)).mono (fun x9 σ31 hp => ?_)
    obtain ⟨rfl, u1, u2, u3⟩ := hp
    intro M N S hM
    show xX G l _ (d + 3) _ _ _ _ M N S
    refine x_goto 89 dX5_aim_82 (by decide) ?_
    refine x_vret rfl dX5_aim_89 (c_ret hM ⟨rfl, kz.trans ((w4 _ _ t1).trans (w5 _ _ u1)), ⟨by rw [u1 p n4.2.1, t2]; exact g6, by rw [u1 p n4.2.1, t2]; exact g7, by rw [u1 p n4.2.1, t2]; exact g8⟩, by rw [u1 p n4.2.1]; exact t3, by rw [u1 p n4.2.1]; exact t4, u3, fun _ i hi => ?_⟩)
    rw [u2]
    dsimp only
    by_cases ei : i = k
    · rw [ei, decide_eq_true rfl]; simp only [upd, if_true]; rfl
    · rw [decide_eq_false ei]; simp only [upd, if_neg ei]; exact t5 i hi

def lfA (c : mCf) : Nat → Nat → Int
  | 0 => fun _ => 0
  | n + 1 => fun i => if c.Hi n = true then lfA c n i + puP c (n * 10 + i) else lfA c n i

set_option maxRecDepth 100000 in
set_option maxHeartbeats 4000000 in
theorem b_aimAll (G : xG) (l : Launch) (ad : Nat → Nat) (F : xM) (R : Nat × Nat) (d : Nat) (σ : cZ) (p : Nat) (hp : p = 5 ∨ p = 6) (c : mCf) (hc : Bm σ 1 c) (hz : Fz σ c) : cC G l ad F R YX5_aimAtAllReactions (d + 3) [.ref (ad p)] σ (fun r σ' => r = none ∧ kp [p, 19 + 3 * p, 21 + 3 * p] σ σ' ∧ Pb σ' p 3 0 0 (lfA c (c.m + 1)) (-1) ((64 * scP c c.m : Nat) : Int) (fun i => decide (i ≤ c.m) && c.Hi i)) := by
  have h0 := hc.1
  have n4 : p ∉ [19 + 3 * p] ∧ p ∉ [19 + 3 * p, 21 + 3 * p] ∧ (4 ∉ [p, 19 + 3 * p, 21 + 3 * p] ∧ 28 ∉ [p, 19 + 3 * p, 21 + 3 * p] ∧ 32 ∉ [p, 19 + 3 * p, 21 + 3 * p]) ∧ (19 + 3 * p) ∉ [p, 21 + 3 * p] ∧ 19 + 3 * p < 40 ∧ 17 ∉ [p, 19 + 3 * p, 21 + 3 * p] := by simp; omega
  have w1 : ∀ (τ τ' : cZ), kp [p] τ τ' → kp [p, 19 + 3 * p, 21 + 3 * p] τ τ' := fun τ τ' h => h.mono (fun j hj => by simp at hj ⊢; omega)
  have w2 : ∀ (τ τ' : cZ), kp [19 + 3 * p] τ τ' → kp [p, 19 + 3 * p, 21 + 3 * p] τ τ' := fun τ τ' h => h.mono (fun j hj => by simp at hj ⊢; omega)
  have w4 : ∀ (τ τ' : cZ), kp [p, 21 + 3 * p] τ τ' → kp [p, 19 + 3 * p, 21 + 3 * p] τ τ' := fun τ τ' h => h.mono (fun j hj => by simp at hj ⊢; omega)
  have w5 : ∀ (τ τ' : cZ), kp [19 + 3 * p, 21 + 3 * p] τ τ' → kp [p, 19 + 3 * p, 21 + 3 * p] τ τ' := fun τ τ' h => h.mono (fun j hj => by simp at hj ⊢; omega)
  have loop : ∀ (u n : Nat) (σ1 : cZ) (M : xM) (N S : Nat), n + u = c.m + 1 → kp [p, 19 + 3 * p, 21 + 3 * p] σ σ1 → Pb σ1 p 3 0 0 (lfA c n) (-1) ((64 * scP c c.m : Nat) : Int) (fun i => decide (i < n) && c.Hi i) → cA G ad F R σ1 M N S → xX G l YX5_aimAtAllReactions (d + 3) (cQ G ad F R (fun r σ' => r = none ∧ kp [p, 19 + 3 * p, 21 + 3 * p] σ σ' ∧ Pb σ' p 3 0 0 (lfA c (c.m + 1)) (-1) ((64 * scP c c.m : Nat) : Int) (fun i => decide (i ≤ c.m) && c.Hi i))) 29 [(0, .ref (ad p)), (1, .int (nI n))] [] M N S := by
    intro u
    induction u with
    | zero =>
      intro n σ1 M N S hn k1 k2 hM
      have hc1 : Bm σ1 1 c := bmk' hc k1 (by intro j hj; simp at hj; omega)
      obtain rfl : n = c.m + 1 := by omega

      refine x_iload_n (q := 30) dX5_aimAtAllReactions_29 rfl rfl ?_
      refine x_aload_n (q := 31) dX5_aimAtAllReactions_30 rfl rfl ?_
      refine c_get (q := 34) (k := p) (f := 0) hM (cE_pr _ _ hp) xclX5 fwX5_33 (by decide) dX5_aimAtAllReactions_31 rfl rfl ?_
      refine c_get (q := 37) (k := 1) (f := 6) hM rfl xclX1 fwX5_73 (by decide) dX5_aimAtAllReactions_34 rfl rfl ?_
      refine x_topi (y := nI c.m) (by exact hc1.2.1) ?_
      refine xn_icmp_gt (q := 40) 63 dX5_aimAtAllReactions_37 (by decide) rfl (by omega) (by omega) (fun hc37 => ?_) (fun hc37 => absurd hc37 (by omega))
      exact x_vret rfl dX5_aimAtAllReactions_63 (c_ret hM ⟨rfl, k1, k2.1, k2.2.1, k2.2.2.1, k2.2.2.2.1, fun h i hi => by rw [k2.2.2.2.2 h i hi]; dsimp only; congr 2; exact decide_eq_decide.mpr (by omega)⟩)

    | succ u ih =>
      intro n σ1 M N S hn k1 k2 hM
      have hc1 : Bm σ1 1 c := bmk' hc k1 (by intro j hj; simp at hj; omega)
      have hz1 : Fz σ1 c := hz.of_kp k1 n4.2.2.1.1 n4.2.2.1.2.1 n4.2.2.1.2.2

      refine x_iload_n (q := 30) dX5_aimAtAllReactions_29 rfl rfl ?_
      refine x_aload_n (q := 31) dX5_aimAtAllReactions_30 rfl rfl ?_
      refine c_get (q := 34) (k := p) (f := 0) hM (cE_pr _ _ hp) xclX5 fwX5_33 (by decide) dX5_aimAtAllReactions_31 rfl rfl ?_
      refine c_get (q := 37) (k := 1) (f := 6) hM rfl xclX1 fwX5_73 (by decide) dX5_aimAtAllReactions_34 rfl rfl ?_
      refine x_topi (y := nI c.m) (by exact hc1.2.1) ?_
      refine xn_icmp_gt (q := 40) 63 dX5_aimAtAllReactions_37 (by decide) rfl (by omega) (by omega) (fun hc37 => absurd hc37 (by omega)) (fun hc37 => ?_)
      refine x_aload_n (q := 41) dX5_aimAtAllReactions_40 rfl rfl ?_
      refine c_get (q := 44) (k := p) (f := 0) hM (cE_pr _ _ hp) xclX5 fwX5_33 (by decide) dX5_aimAtAllReactions_41 rfl rfl ?_
      refine c_get (q := 47) (k := 1) (f := 3) hM rfl xclX1 fwX5_76 (by decide) dX5_aimAtAllReactions_44 rfl rfl ?_
      refine x_iload_n (q := 48) dX5_aimAtAllReactions_47 rfl rfl ?_
      refine c_zald (q := 49) (k := 17) (n := 4) hM rfl (by decide) (by decide) dX5_aimAtAllReactions_48 rfl (by omega) ?_
      refine x_topi (y := bI (c.Hi n)) (by exact hc1.2.2.2.2.2.1 n (by omega)) ?_
      refine x_if_eq (q := 52) 57 dX5_aimAtAllReactions_49 (by decide) rfl (fun hc49 => ?_) (fun hc49 => ?_)
      · refine xn_iinc (q := 60) (ls' := [(0, _), (1, _)]) [1, 0] 1 dX5_aimAtAllReactions_57 rfl rfl (by decide) (by decide) rfl ?_
        refine x_goto 29 dX5_aimAtAllReactions_60 (by decide) ?_
        have hh := bI_eq.mp hc49
        refine ih (n + 1) σ1 M N S (by omega) k1 ⟨k2.1, k2.2.1, k2.2.2.1, fun i hi => ?_, fun h i hi => ?_⟩ hM
        · show _ = iL (if c.Hi n = true then _ else lfA c n i); rw [hh, if_neg (by decide)]; exact k2.2.2.2.1 i hi
        · rw [k2.2.2.2.2 h i hi]
          dsimp only
          by_cases ei : i = n
          · rw [ei, hh, Bool.and_false, Bool.and_false]
          · congr 2; exact decide_eq_decide.mpr (by omega)
      · refine x_aload_n (q := 53) dX5_aimAtAllReactions_52 rfl rfl ?_
        refine x_iload_n (q := 54) dX5_aimAtAllReactions_53 rfl rfl ?_
        refine c_call (q := 57) (k := p) (As := [_]) hM (cE_pr _ _ hp) imX5_addReaction ivX5_addReaction ilX5_addReaction mwX5_66 xciX5 dX5_aimAtAllReactions_54 rfl rfl rfl (Nat.le_of_ble_eq_true rfl) ?_
        refine (b_addReaction G l ad F R (d + 1) σ1 p hp c hz1 (lfA c n) k2.2.2.2.1 n (by omega)).mono (fun x9 σ54 hp => ?_)
        obtain ⟨rfl, u1, u2, u3⟩ := hp
        intro M N S hM
        show xX G l _ (d + 3) _ _ _ _ M N S
        refine xn_iinc (q := 60) (ls' := [(0, _), (1, _)]) [1, 0] 1 dX5_aimAtAllReactions_57 rfl rfl (by decide) (by decide) rfl ?_
        refine x_goto 29 dX5_aimAtAllReactions_60 (by decide) ?_
        have hh := bI_ne.mp hc49
        refine ih (n + 1) σ54 M N S (by omega) (k1.trans (w5 _ _ u1)) ⟨by rw [u1 p n4.2.1]; exact k2.1, by rw [u1 p n4.2.1]; exact k2.2.1, by rw [u1 p n4.2.1]; exact k2.2.2.1, fun i hi => ?_, fun h i hi => ?_⟩ hM
        · show _ = iL (if c.Hi n = true then _ else lfA c n i); rw [if_pos hh]; exact u3 i hi
        · rw [u2]
          dsimp only
          by_cases ei : i = n
          · rw [ei, hh, decide_eq_true (by omega)]; simp only [upd, if_true]; rfl
          · simp only [upd, if_neg ei]; rw [k2.2.2.2.2 h i hi]; dsimp only; congr 2; exact decide_eq_decide.mpr (by omega)

  refine cC.of (ls := [(0, .ref (ad p))]) (by decide) (Nat.le_of_ble_eq_true rfl) rfl fun M N S hM => ?_

  refine x_aload_n (q := 1) dX5_aimAtAllReactions_0 rfl rfl ?_
  refine xn_iconst (q := 2) 3 dX5_aimAtAllReactions_1 rfl (by decide) ?_
  refine c_puti (q := 5) (k := p) (f := 6) hM (cE_pr _ _ hp) (by rw [cE_pr _ _ hp, mu_s]; rfl) xclX5 fwX5_41 (by decide) rfl rfl (Nat.le_of_ble_eq_true rfl) dX5_aimAtAllReactions_2 rfl rfl rfl (fun M σ2 a2 e2 b2 hM => ?_)
  refine x_aload_n (q := 6) dX5_aimAtAllReactions_5 rfl rfl ?_
  refine xn_iconst (q := 7) 0 dX5_aimAtAllReactions_6 rfl (by decide) ?_
  refine c_puti (q := 10) (k := p) (f := 7) hM (cE_pr _ _ hp) (by rw [cE_pr _ _ hp, mu_s]; rfl) xclX5 fwX5_45 (by decide) rfl rfl (Nat.le_of_ble_eq_true rfl) dX5_aimAtAllReactions_7 rfl rfl rfl (fun M σ7 a7 e7 b7 hM => ?_)
  refine x_aload_n (q := 11) dX5_aimAtAllReactions_10 rfl rfl ?_
  refine xn_iconst (q := 12) 0 dX5_aimAtAllReactions_11 rfl (by decide) ?_
  refine c_puti (q := 15) (k := p) (f := 8) hM (cE_pr _ _ hp) (by rw [cE_pr _ _ hp, mu_s]; rfl) xclX5 fwX5_48 (by decide) rfl rfl (Nat.le_of_ble_eq_true rfl) dX5_aimAtAllReactions_12 rfl rfl rfl (fun M σ12 a12 e12 b12 hM => ?_)
  refine x_aload_n (q := 16) dX5_aimAtAllReactions_15 rfl rfl ?_
  refine c_get (q := 19) (k := p) (f := 2) hM (cE_pr _ _ hp) xclX5 fwX5_11 (by decide) dX5_aimAtAllReactions_16 rfl rfl ?_
  refine xn_lconst (q := 20) 0 dX5_aimAtAllReactions_19 rfl (by decide) ?_
  refine c_callS (q := 23) (As := [_, _]) hM imJ7_fill_d0a16 isJ7_fill_d0a16 mwX5_51 dX5_aimAtAllReactions_20 rfl rfl rfl (Nat.le_of_ble_eq_true rfl) ?_
  refine (b_fill G l ad F R (d + 2) σ12 (19 + 3 * p) 10 (lN 0) n4.2.2.2.2.1 (fun τ => cE_pl ad τ hp) (by decide)).mono (fun x9 σ20 hp => ?_)
  obtain ⟨rfl, q1, q2, q3⟩ := hp
  intro M N S hM
  show xX G l _ (d + 3) _ _ _ _ M N S
  have kz : kp [p, 19 + 3 * p, 21 + 3 * p] σ σ20 := (w1 _ _ a2).trans ((w1 _ _ a7).trans ((w1 _ _ a12).trans (w2 _ _ q1)))
  have hz20 : Fz σ20 c := hz.of_kp kz n4.2.2.1.1 n4.2.2.1.2.1 n4.2.2.1.2.2
  refine x_aload_n (q := 24) dX5_aimAtAllReactions_23 rfl rfl ?_
  refine c_call (q := 27) (k := p) (As := []) hM (cE_pr _ _ hp) imX5_aimAtReactions ivX5_aimAtReactions ilX5_aimAtReactions mwX5_63 xciX5 dX5_aimAtAllReactions_24 rfl rfl rfl (Nat.le_of_ble_eq_true rfl) ?_
  refine (b_aimAtReactions G l ad F R (d + 1) σ20 p hp c hz20).mono (fun x9 σ24 hp => ?_)
  obtain ⟨rfl, t1, t2, t3, t4, t5⟩ := hp
  intro M N S hM
  show xX G l _ (d + 3) _ _ _ _ M N S
  refine xn_iconst (q := 28) 0 dX5_aimAtAllReactions_27 rfl (by decide) ?_
  refine x_istore_n (q := 29) (ls' := [(0, _), (1, _)]) [1, 0] dX5_aimAtAllReactions_28 rfl (by decide) rfl ?_
  exact loop (c.m + 1) 0 σ24 M N S (by omega) (kz.trans (w4 _ _ t1)) ⟨⟨by rw [t2, q1 p n4.1, e12, mu_n (by decide), e7, mu_n (by decide), e2, mu_s], by rw [t2, q1 p n4.1, e12, mu_n (by decide), e7, mu_s], by rw [t2, q1 p n4.1, e12, mu_s]⟩, t3, t4, fun i hi => by rw [t1 _ n4.2.2.2.1]; exact q2 i hi, fun _ i hi => t5 i hi⟩ hM

end XC8
