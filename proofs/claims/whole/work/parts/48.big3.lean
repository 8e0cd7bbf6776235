section XZ
theorem div0_lt {a i : Nat} (h : a / B9 ^ i = 0) : a < B9 ^ i := by
  rcases Nat.div_eq_zero_iff.mp h with h | h
  · exact absurd h (Nat.ne_of_gt (B9_pos i))
  · exact h
theorem kp.b {b : Nat} {σ σ' : cZ} (h : kp [b] σ σ') : kp [b, b + 100] σ σ' := h.mono (fun j hj => by simp at hj ⊢; exact .inl hj)
theorem kp.l {b : Nat} {σ σ' : cZ} (h : kp [b + 100] σ σ') : kp [b, b + 100] σ σ' := h.mono (fun j hj => by simp at hj ⊢; exact .inr hj)
theorem bg_ne {b c : Nat} (hb : isBg b) (hc : isBg c) (h : b ≠ c) : c ∉ [b, b + 100] ∧ c + 100 ∉ [b, b + 100] ∧ b ∉ [c, c + 100] ∧ b + 100 ∉ [c, c + 100] := by
  obtain ⟨h1, h2⟩ := hb
  obtain ⟨h3, h4⟩ := hc
  simp only [List.mem_cons, List.not_mem_nil, or_false, not_or]
  omega

set_option maxRecDepth 100000 in
set_option maxHeartbeats 4000000 in
theorem b_take (G : xG) (l : Launch) (ad : Nat → Nat) (F : xM) (R : Nat × Nat) (d : Nat) (σ : cZ) (b c : Nat) (hb : isBg b) (hc : isBg c) (hbc : b ≠ c) (v : Int) (hv : Bg σ c v) (hlt : v.natAbs < B9 ^ 1024) : cC G l ad F R YX2_take (d + 3) [.ref (ad b), .ref (ad c)] σ (fun r σ' => r = none ∧ kp [b, b + 100] σ σ' ∧ Bg σ' b v) := by
  obtain ⟨n, hn, hlen, h0, h1, hdg⟩ := hv
  have hn1 := nl_of_le hn hlt
  obtain ⟨x1, x2, x3, x4⟩ := bg_ne hb hc hbc
  have hc9 : c ≠ b + 100 := by have := hc.2; have := hb.1; omega
  refine cC.of (ls := [(0, .ref (ad b)), (1, .ref (ad c))]) (by decide) (Nat.le_of_ble_eq_true rfl) rfl fun M N S hM => ?_

  refine x_aload_n (q := 1) dX2_take_0 rfl rfl ?_
  refine xn_iconst (q := 2) 0 dX2_take_1 rfl (by decide) ?_
  refine c_puti (q := 5) (k := b) (f := 1) hM (cE_big _ _ hb) (by rw [cE_big _ _ hb, mu_s]; rfl) xclX2 fwX2_13 (by decide) rfl rfl (Nat.le_of_ble_eq_true rfl) dX2_take_2 rfl rfl rfl (fun M σ2 a2 e2 b2 hM => ?_)
  refine x_aload_n (q := 6) dX2_take_5 rfl rfl ?_
  refine x_aload_n (q := 7) dX2_take_6 rfl rfl ?_
  refine c_get (q := 10) (k := c) (f := 1) hM (cE_big _ _ hc) xclX2 fwX2_13 (by decide) dX2_take_7 rfl rfl ?_
  refine x_topi (y := nI n) (by rw [a2 c (by simp; omega), h1]) ?_
  refine c_call (q := 13) (k := b) (As := [_]) hM (cE_big _ _ hb) imX2_makeRoom ivX2_makeRoom ilX2_makeRoom mwX2_26 xciX2 dX2_take_10 rfl rfl rfl (Nat.le_of_ble_eq_true rfl) ?_
  refine (b_makeRoom G l ad F R d σ2 b 0 n hb hn1 (Nat.zero_le _) (by rw [e2, mu_s])).mono (fun x9 σ10 hp => ?_)
  obtain ⟨rfl, p1, p2, p4, p5, p6, p7⟩ := hp
  intro M N S hM
  show xX G l _ (d + 3) _ _ _ _ M N S
  have c1 : σ10 c = σ c := (p1 c x1).trans (a2 c (by simp; omega))
  have c2 : σ10 (c + 100) = σ (c + 100) := (p1 _ x2).trans (a2 _ (by simp; have := hc.1; have := hb.2; omega))
  refine x_aload_n (q := 14) dX2_take_13 rfl rfl ?_
  refine c_get (q := 17) (k := c) (f := 2) hM (cE_big _ _ hc) xclX2 fwX2_9 (by decide) dX2_take_14 rfl rfl ?_
  refine xn_iconst (q := 18) 0 dX2_take_17 rfl (by decide) ?_
  refine x_aload_n (q := 19) dX2_take_18 rfl rfl ?_
  refine c_get (q := 22) (k := b) (f := 2) hM (cE_big _ _ hb) xclX2 fwX2_9 (by decide) dX2_take_19 rfl rfl ?_
  refine xn_iconst (q := 23) 0 dX2_take_22 rfl (by decide) ?_
  refine x_aload_n (q := 24) dX2_take_23 rfl rfl ?_
  refine c_get (q := 27) (k := c) (f := 1) hM (cE_big _ _ hc) xclX2 fwX2_13 (by decide) dX2_take_24 rfl rfl ?_
  refine x_topi (y := nI n) (by rw [c1, h1]) ?_
  have hlc := hM.2.2.2.1 c hc
  have hlb := hM.2.2.2.1 b hb
  refine x_copyi (q := 30) (sp := 0) (dp := 0) 0 rfl rfl mwX2_30 ac1 ac2 ac3 dX2_take_27 rfl (hM.limb hc) (hM.limb hb) (by rw [c1]; omega) (by omega) (by omega) (by omega) (fun i hi => rfl) (Nat.le_of_ble_eq_true rfl) ?_
  have hM := hM.setl hb (va_cpy (σ10 (c + 100)).1 (σ10 (b + 100)).1 0 0 n)
  have hq27 : ∀ j, j ≠ b + 100 → mu σ10 (b + 100) (va_cpy (σ10 (c + 100)).1 (σ10 (b + 100)).1 0 0 n, (σ10 (b + 100)).2) j = σ10 j := fun j hj => mu_n hj
  refine x_aload_n (q := 31) dX2_take_30 rfl rfl ?_
  refine x_aload_n (q := 32) dX2_take_31 rfl rfl ?_
  refine c_get (q := 35) (k := c) (f := 1) hM (cE_big _ _ hc) xclX2 fwX2_13 (by decide) dX2_take_32 rfl rfl ?_
  refine x_topi (y := nI n) (by rw [hq27 c hc9, c1, h1]) ?_
  refine c_puti (q := 38) (k := b) (f := 1) hM (cE_big _ _ hb) (by rw [cE_big _ _ hb, mu_s]; rfl) xclX2 fwX2_13 (by decide) rfl rfl (Nat.le_of_ble_eq_true rfl) dX2_take_35 rfl rfl rfl (fun M σ35 a35 e35 b35 hM => ?_)
  refine x_aload_n (q := 39) dX2_take_38 rfl rfl ?_
  refine x_aload_n (q := 40) dX2_take_39 rfl rfl ?_
  refine c_get (q := 43) (k := c) (f := 0) hM (cE_big _ _ hc) xclX2 fwX2_23 (by decide) dX2_take_40 rfl rfl ?_
  refine x_topi (y := sg v) (by rw [a35 c (by simp; omega), hq27 c hc9, c1, h0]) ?_
  refine c_puti (q := 46) (k := b) (f := 0) hM (cE_big _ _ hb) (by rw [cE_big _ _ hb, mu_s]; rfl) xclX2 fwX2_23 (by decide) rfl rfl (Nat.le_of_ble_eq_true rfl) dX2_take_43 rfl rfl rfl (fun M σ43 a43 e43 b43 hM => ?_)
  have kz : kp [b, b + 100] σ σ43 := a2.b.trans (p1.trans ((kp.l (fun j hj => hq27 j (by simpa using hj))).trans (a35.b.trans a43.b)))
  exact x_vret rfl dX2_take_46 (c_ret hM ⟨rfl, kz, n, hn, by rw [b43, b35, mu_n (by omega)]; exact p4, by rw [e43, mu_s], by rw [e43, mu_n (by decide), e35, mu_s], fun j hj => by rw [a43 _ (by simp), a35 _ (by simp), mu_s]; show va_cpy _ _ 0 0 n j = _; unfold va_cpy; rw [if_pos (by omega), show 0 + (j - 0) = j by omega, c2, hdg j hj]⟩)

set_option maxRecDepth 100000 in
set_option maxHeartbeats 4000000 in
theorem b_lowest (G : xG) (l : Launch) (ad : Nat → Nat) (F : xM) (R : Nat × Nat) (d : Nat) (σ : cZ) (b : Nat) (hb : isBg b) (v : Int) (hv : Bg σ b v) : cC G l ad F R YX2_lowest (d + 1) [.ref (ad b)] σ (fun r σ' => r = some (.long (lN (dg v.natAbs 1 * 1000000000 + dg v.natAbs 0))) ∧ σ' = σ) := by
  refine cC.of (ls := [(0, .ref (ad b))]) (by decide) (Nat.le_of_ble_eq_true rfl) rfl fun M N S hM => ?_

  refine x_aload_n (q := 1) dX2_lowest_0 rfl rfl ?_
  refine xn_iconst (q := 2) 1 dX2_lowest_1 rfl (by decide) ?_
  refine c_call (q := 5) (k := b) (As := [_]) hM (cE_big _ _ hb) imX2_limbAt ivX2_limbAt ilX2_limbAt mwX2_17 xciX2 dX2_lowest_2 rfl rfl rfl (Nat.le_of_ble_eq_true rfl) ?_
  refine (b_limbAt G l ad F R d σ b 1 hb v hv (by decide)).mono (fun x9 σ9' hp => ?_)
  obtain ⟨rfl, e9⟩ := hp
  intro M N S hM
  rw [e9] at hM; clear e9 σ9'
  show xX G l _ (d + 1) _ _ _ _ M N S
  refine xn_ldc2 (q := 8) 1000000000 dX2_lowest_5 rfl cwX2_21 ?_
  refine xn_lmul (q := 9) dX2_lowest_8 rfl ?_
  refine x_aload_n (q := 10) dX2_lowest_9 rfl rfl ?_
  refine xn_iconst (q := 11) 0 dX2_lowest_10 rfl (by decide) ?_
  refine c_call (q := 14) (k := b) (As := [_]) hM (cE_big _ _ hb) imX2_limbAt ivX2_limbAt ilX2_limbAt mwX2_17 xciX2 dX2_lowest_11 rfl rfl rfl (Nat.le_of_ble_eq_true rfl) ?_
  refine (b_limbAt G l ad F R d σ b 0 hb v hv (by decide)).mono (fun x9 σ9' hp => ?_)
  obtain ⟨rfl, e9⟩ := hp
  intro M N S hM
  rw [e9] at hM; clear e9 σ9'
  show xX G l _ (d + 1) _ _ _ _ M N S
  refine xn_ladd (q := 15) dX2_lowest_14 rfl ?_
  exact x_lret rfl dX2_lowest_15 (c_ret hM ⟨rfl, rfl⟩)

theorem nl_eq {a b n : Nat} (ha : nl a n) (hb : nl b n) (h : ∀ j, j < n → dg a j = dg b j) : a = b := by
  rw [← val_dg ha.1, ← val_dg hb.1]
  exact val_congr h
theorem sg_inj {v w : Int} (h : sg v = sg w) (ha : v.natAbs = w.natAbs) : v = w := by
  rcases Int.lt_trichotomy v 0 with e | e | e
  · rcases Int.lt_trichotomy w 0 with f | f | f
    · omega
    · omega
    · rw [sg_neg e, sg_pos f] at h; exact absurd h (by decide)
  · omega
  · rcases Int.lt_trichotomy w 0 with f | f | f
    · rw [sg_pos e, sg_neg f] at h; exact absurd h (by decide)
    · omega
    · omega

set_option maxRecDepth 100000 in
set_option maxHeartbeats 4000000 in
theorem b_isSame (G : xG) (l : Launch) (ad : Nat → Nat) (F : xM) (R : Nat × Nat) (d : Nat) (σ : cZ) (b c : Nat) (hb : isBg b) (hc : isBg c) (v w : Int) (hv : Bg σ b v) (hw : Bg σ c w) : cC G l ad F R YX2_isSame (d + 1) [.ref (ad b), .ref (ad c)] σ (fun r σ' => r = some (.int (bI (decide (v = w)))) ∧ σ' = σ) := by
  have hw' := hw
  obtain ⟨n, hn, hlen, h0, h1, hdg⟩ := hv
  obtain ⟨m, hm, hlen2, g0, g1, gdg⟩ := hw
  refine cC.of (ls := [(0, .ref (ad b)), (1, .ref (ad c))]) (by decide) (Nat.le_of_ble_eq_true rfl) rfl fun M N S hM => ?_
  have hll := hM.2.2.2.1 b hb
  have hll2 := hM.2.2.2.1 c hc
  have out0 : ∀ (i : Nat) (M : xM) (N S : Nat), i ≤ n → v ≠ w → cA G ad F R σ M N S → xX G l YX2_isSame (d + 1) (cQ G ad F R (fun r σ' => r = some (.int (bI (decide (v = w)))) ∧ σ' = σ)) 30 [(0, .ref (ad b)), (1, .ref (ad c)), (2, .int (nI 0)), (3, .int (nI i))] [] M N S := by
    intro i M N S hi hne hM

    refine x_iload_n (q := 31) dX2_isSame_30 rfl rfl ?_
    refine x_aload_n (q := 32) dX2_isSame_31 rfl rfl ?_
    refine c_get (q := 35) (k := b) (f := 1) hM (cE_big _ _ hb) xclX2 fwX2_13 (by decide) dX2_isSame_32 rfl rfl ?_
    rw [h1]
    refine xn_icmp_ge (q := 38) 70 dX2_isSame_35 (by decide) rfl (by omega) (by omega) (fun hc35 => ?_) (fun hc35 => ?_)
    · refine x_iload_n (q := 71) dX2_isSame_70 rfl rfl ?_
      exact x_zret rfl (by decide) dX2_isSame_71 (c_ret hM ⟨by rw [decide_eq_false hne]; rfl, rfl⟩)
    · refine x_iload_n (q := 39) dX2_isSame_38 rfl rfl ?_
      refine xn_if_eq (q := 42) 70 dX2_isSame_39 (by decide) rfl (by omega) (fun hc39 => ?_) (fun hc39 => absurd hc39 (by decide))
      refine x_iload_n (q := 71) dX2_isSame_70 rfl rfl ?_
      exact x_zret rfl (by decide) dX2_isSame_71 (c_ret hM ⟨by rw [decide_eq_false hne]; rfl, rfl⟩)

  have loop : ∀ (u i : Nat) (M : xM) (N S : Nat), i + u = n → m = n → sg v = sg w → (∀ j, j < i → dg v.natAbs j = dg w.natAbs j) → cA G ad F R σ M N S → xX G l YX2_isSame (d + 1) (cQ G ad F R (fun r σ' => r = some (.int (bI (decide (v = w)))) ∧ σ' = σ)) 30 [(0, .ref (ad b)), (1, .ref (ad c)), (2, .int (nI 1)), (3, .int (nI i))] [] M N S := by
    intro u
    induction u with
    | zero =>
      intro i M N S hi hmn hsg hj hM
      subst hmn

      refine x_iload_n (q := 31) dX2_isSame_30 rfl rfl ?_
      refine x_aload_n (q := 32) dX2_isSame_31 rfl rfl ?_
      refine c_get (q := 35) (k := b) (f := 1) hM (cE_big _ _ hb) xclX2 fwX2_13 (by decide) dX2_isSame_32 rfl rfl ?_
      rw [h1]
      refine xn_icmp_ge (q := 38) 70 dX2_isSame_35 (by decide) rfl (by omega) (by omega) (fun hc35 => ?_) (fun hc35 => absurd hc35 (by omega))
      refine x_iload_n (q := 71) dX2_isSame_70 rfl rfl ?_
      exact x_zret rfl (by decide) dX2_isSame_71 (c_ret hM ⟨by rw [decide_eq_true (sg_inj hsg (nl_eq hn hm (fun j hj' => hj j (by omega))))]; rfl, rfl⟩)

    | succ u ih =>
      intro i M N S hi hmn hsg hj hM
      have hd1 := dg_lt v.natAbs i
      have hd2 := dg_lt w.natAbs i
      have hB : B9 = 1000000000 := rfl

      refine x_iload_n (q := 31) dX2_isSame_30 rfl rfl ?_
      refine x_aload_n (q := 32) dX2_isSame_31 rfl rfl ?_
      refine c_get (q := 35) (k := b) (f := 1) hM (cE_big _ _ hb) xclX2 fwX2_13 (by decide) dX2_isSame_32 rfl rfl ?_
      rw [h1]
      refine xn_icmp_ge (q := 38) 70 dX2_isSame_35 (by decide) rfl (by omega) (by omega) (fun hc35 => absurd hc35 (by omega)) (fun hc35 => ?_)
      refine x_iload_n (q := 39) dX2_isSame_38 rfl rfl ?_
      refine xn_if_eq (q := 42) 70 dX2_isSame_39 (by decide) rfl (by omega) (fun hc39 => absurd hc39 (by decide)) (fun hc39 => ?_)
      refine x_aload_n (q := 43) dX2_isSame_42 rfl rfl ?_
      refine c_get (q := 46) (k := b) (f := 2) hM (cE_big _ _ hb) xclX2 fwX2_9 (by decide) dX2_isSame_43 rfl rfl ?_
      refine x_iload_n (q := 47) dX2_isSame_46 rfl rfl ?_
      refine c_limb (q := 48) hM hb dX2_isSame_47 rfl (by omega) ?_
      rw [hdg i (by omega)]
      refine xn_i2l (q := 49) dX2_isSame_48 rfl (by omega) ?_
      refine x_aload_n (q := 50) dX2_isSame_49 rfl rfl ?_
      refine x_iload_n (q := 51) dX2_isSame_50 rfl rfl ?_
      refine c_call (q := 54) (k := c) (As := [_]) hM (cE_big _ _ hc) imX2_limbAt ivX2_limbAt ilX2_limbAt mwX2_17 xciX2 dX2_isSame_51 rfl rfl rfl (Nat.le_of_ble_eq_true rfl) ?_
      refine (b_limbAt G l ad F R d σ c i hc w hw' (by omega)).mono (fun x9 σ9' hp => ?_)
      obtain ⟨rfl, e9⟩ := hp
      intro M N S hM
      rw [e9] at hM; clear e9 σ9'
      show xX G l _ (d + 1) _ _ _ _ M N S
      refine xn_lcmp_ne (q1 := 55) (q := 58) 62 dX2_isSame_54 rfl dX2_isSame_55 (by decide) rfl (by omega) (by omega) (fun hc54 => ?_) (fun hc54 => ?_)
      · refine xn_iconst (q := 63) 0 dX2_isSame_62 rfl (by decide) ?_
        refine x_istore_n (q := 64) (ls' := [(0, _), (1, _), (2, _), (3, _)]) [1, 2, 0, 3] dX2_isSame_63 rfl (by decide) rfl ?_
        refine xn_iinc (q := 67) (ls' := [(0, _), (1, _), (2, _), (3, _)]) [1, 2, 3, 0] 1 dX2_isSame_64 rfl rfl (by decide) (by decide) rfl ?_
        refine x_goto 30 dX2_isSame_67 (by decide) ?_
        exact out0 (i + 1) M N S (by omega) (fun e => hc54 (by rw [e])) hM
      · refine xn_iconst (q := 59) 1 dX2_isSame_58 rfl (by decide) ?_
        refine x_goto 63 dX2_isSame_59 (by decide) ?_
        refine x_istore_n (q := 64) (ls' := [(0, _), (1, _), (2, _), (3, _)]) [1, 2, 0, 3] dX2_isSame_63 rfl (by decide) rfl ?_
        refine xn_iinc (q := 67) (ls' := [(0, _), (1, _), (2, _), (3, _)]) [1, 2, 3, 0] 1 dX2_isSame_64 rfl rfl (by decide) (by decide) rfl ?_
        refine x_goto 30 dX2_isSame_67 (by decide) ?_
        exact ih (i + 1) M N S (by omega) hmn hsg (fun j hj' => by
        by_cases e : j = i
        · rw [e]; exact hc54
        · exact hj j (by omega)) hM

  refine x_aload_n (q := 1) dX2_isSame_0 rfl rfl ?_
  refine c_get (q := 4) (k := b) (f := 0) hM (cE_big _ _ hb) xclX2 fwX2_23 (by decide) dX2_isSame_1 rfl rfl ?_
  rw [h0]
  refine x_aload_n (q := 5) dX2_isSame_4 rfl rfl ?_
  refine c_get (q := 8) (k := c) (f := 0) hM (cE_big _ _ hc) xclX2 fwX2_23 (by decide) dX2_isSame_5 rfl rfl ?_
  rw [g0]
  refine x_icmp_ne (q := 11) 26 dX2_isSame_8 (by decide) rfl (fun hc8 => ?_) (fun hc8 => ?_)
  · refine xn_iconst (q := 27) 0 dX2_isSame_26 rfl (by decide) ?_
    refine x_istore_n (q := 28) (ls' := [(0, _), (1, _), (2, _)]) [1, 2, 0] dX2_isSame_27 rfl (by decide) rfl ?_
    refine xn_iconst (q := 29) 0 dX2_isSame_28 rfl (by decide) ?_
    refine x_istore_n (q := 30) (ls' := [(0, _), (1, _), (2, _), (3, _)]) [1, 2, 3, 0] dX2_isSame_29 rfl (by decide) rfl ?_
    exact out0 0 M N S (Nat.zero_le _) (fun e => hc8 (by rw [e])) hM
  · refine x_aload_n (q := 12) dX2_isSame_11 rfl rfl ?_
    refine c_get (q := 15) (k := b) (f := 1) hM (cE_big _ _ hb) xclX2 fwX2_13 (by decide) dX2_isSame_12 rfl rfl ?_
    rw [h1]
    refine x_aload_n (q := 16) dX2_isSame_15 rfl rfl ?_
    refine c_get (q := 19) (k := c) (f := 1) hM (cE_big _ _ hc) xclX2 fwX2_13 (by decide) dX2_isSame_16 rfl rfl ?_
    rw [g1]
    refine xn_icmp_ne (q := 22) 26 dX2_isSame_19 (by decide) rfl (by omega) (by omega) (fun hc19 => ?_) (fun hc19 => ?_)
    · refine xn_iconst (q := 27) 0 dX2_isSame_26 rfl (by decide) ?_
      refine x_istore_n (q := 28) (ls' := [(0, _), (1, _), (2, _)]) [1, 2, 0] dX2_isSame_27 rfl (by decide) rfl ?_
      refine xn_iconst (q := 29) 0 dX2_isSame_28 rfl (by decide) ?_
      refine x_istore_n (q := 30) (ls' := [(0, _), (1, _), (2, _), (3, _)]) [1, 2, 3, 0] dX2_isSame_29 rfl (by decide) rfl ?_
      exact out0 0 M N S (Nat.zero_le _) (fun e => hc19 (nl_uniq hn (by rw [e]; exact hm))) hM
    · refine xn_iconst (q := 23) 1 dX2_isSame_22 rfl (by decide) ?_
      refine x_goto 27 dX2_isSame_23 (by decide) ?_
      refine x_istore_n (q := 28) (ls' := [(0, _), (1, _), (2, _)]) [1, 2, 0] dX2_isSame_27 rfl (by decide) rfl ?_
      refine xn_iconst (q := 29) 0 dX2_isSame_28 rfl (by decide) ?_
      refine x_istore_n (q := 30) (ls' := [(0, _), (1, _), (2, _), (3, _)]) [1, 2, 3, 0] dX2_isSame_29 rfl (by decide) rfl ?_
      exact loop n 0 M N S (by omega) hc19.symm hc8 (fun j hj => absurd hj (Nat.not_lt_zero j)) hM

set_option maxRecDepth 100000 in
set_option maxHeartbeats 4000000 in
theorem b_takeLong (G : xG) (l : Launch) (ad : Nat → Nat) (F : xM) (R : Nat × Nat) (d : Nat) (σ : cZ) (b : Nat) (hb : isBg b) (z : Int) (hz : z.natAbs < 9000000000000000000) : cC G l ad F R YX2_takeLong (d + 1) [.ref (ad b), .long (iL z)] σ (fun r σ' => r = none ∧ kp [b, b + 100] σ σ' ∧ Bg σ' b z) := by
  have hzt : (iL z).toInt = z := iL_t (by omega) (by omega)
  refine cC.of (ls := [(0, .ref (ad b)), (1, .long (iL z))]) (by decide) (Nat.le_of_ble_eq_true rfl) rfl fun M N S hM => ?_
  have loop : ∀ (u i : Nat) (σ1 : cZ) (M : xM) (N S : Nat), i + u = 3 → kp [b, b + 100] σ σ1 → (σ1 b).1 0 = sg z → (σ1 b).1 1 = nI i → (i = 0 ∨ B9 ^ (i - 1) ≤ z.natAbs) → (∀ j, j < i → (σ1 (b + 100)).1 j = nI (dg z.natAbs j)) → cA G ad F R σ1 M N S → xX G l YX2_takeLong (d + 1) (cQ G ad F R (fun r σ' => r = none ∧ kp [b, b + 100] σ σ' ∧ Bg σ' b z)) 29 [(0, .ref (ad b)), (1, .long (iL z)), (3, .long (lN (z.natAbs / B9 ^ i))), (5, .int (nI i))] [] M N S := by
    intro u
    induction u with
    | zero =>
      intro i σ1 M N S hi k1 k2 k3 k4 k5 hM
      have hll := hM.2.2.2.1 b hb
      obtain rfl : i = 3 := by omega
      have h27 : B9 ^ 3 = 1000000000000000000000000000 := by decide

      refine x_iload (q := 31) dX2_takeLong_29 rfl rfl ?_
      refine xn_iconst (q := 32) 3 dX2_takeLong_31 rfl (by decide) ?_
      refine xn_icmp_ge (q := 35) 74 dX2_takeLong_32 (by decide) rfl (by omega) (by omega) (fun hc32 => ?_) (fun hc32 => absurd hc32 (by omega))
      exact x_vret rfl dX2_takeLong_74 (c_ret hM ⟨rfl, k1, 3, ⟨by rw [h27]; omega, k4⟩, by omega, k2, k3, k5⟩)

    | succ u ih =>
      intro i σ1 M N S hi k1 k2 k3 k4 k5 hM
      have hll := hM.2.2.2.1 b hb
      have hdl := Nat.div_le_self z.natAbs (B9 ^ i)
      have hml := Nat.mod_lt (z.natAbs / B9 ^ i) (show 0 < 1000000000 by decide)

      refine x_iload (q := 31) dX2_takeLong_29 rfl rfl ?_
      refine xn_iconst (q := 32) 3 dX2_takeLong_31 rfl (by decide) ?_
      refine xn_icmp_ge (q := 35) 74 dX2_takeLong_32 (by decide) rfl (by omega) (by omega) (fun hc32 => absurd hc32 (by omega)) (fun hc32 => ?_)
      refine x_lload_n (q := 36) dX2_takeLong_35 rfl rfl ?_
      refine xn_lconst (q := 37) 0 dX2_takeLong_36 rfl (by decide) ?_
      refine xn_lcmp_le (q1 := 38) (q := 41) 74 dX2_takeLong_37 rfl dX2_takeLong_38 (by decide) rfl (by omega) (by omega) (fun hc37 => ?_) (fun hc37 => ?_)
      · exact x_vret rfl dX2_takeLong_74 (c_ret hM ⟨rfl, k1, i, ⟨div0_lt (Nat.le_zero.mp hc37), k4⟩, by omega, k2, k3, k5⟩)
      · refine x_aload_n (q := 42) dX2_takeLong_41 rfl rfl ?_
        refine c_get (q := 45) (k := b) (f := 2) hM (cE_big _ _ hb) xclX2 fwX2_9 (by decide) dX2_takeLong_42 rfl rfl ?_
        refine x_iload (q := 47) dX2_takeLong_45 rfl rfl ?_
        refine x_lload_n (q := 48) dX2_takeLong_47 rfl rfl ?_
        refine xn_ldc2 (q := 51) 1000000000 dX2_takeLong_48 rfl cwX2_21 ?_
        refine xn_lrem (q := 52) dX2_takeLong_51 rfl (by omega) (by decide) (by decide) ?_
        refine xn_l2i (q := 53) dX2_takeLong_52 rfl ?_
        refine c_limbst (q := 54) hM hb dX2_takeLong_53 rfl (by omega) (fun M σ53 a53 e53 hM => ?_)
        refine x_lload_n (q := 55) dX2_takeLong_54 rfl rfl ?_
        refine xn_ldc2 (q := 58) 1000000000 dX2_takeLong_55 rfl cwX2_21 ?_
        refine xn_ldiv (q := 59) dX2_takeLong_58 rfl (by omega) (by decide) (by decide) ?_
        refine x_lstore_n (q := 60) (ls' := [(0, _), (1, _), (3, _), (5, _)]) [1, 2, 0, 3] dX2_takeLong_59 rfl (by decide) rfl ?_
        refine x_aload_n (q := 61) dX2_takeLong_60 rfl rfl ?_
        refine x_iload (q := 63) dX2_takeLong_61 rfl rfl ?_
        refine xn_iconst (q := 64) 1 dX2_takeLong_63 rfl (by decide) ?_
        refine xn_iadd (q := 65) dX2_takeLong_64 rfl ?_
        refine c_puti (q := 68) (k := b) (f := 1) hM (cE_big _ _ hb) (by rw [cE_big _ _ hb, mu_s]; rfl) xclX2 fwX2_13 (by decide) rfl rfl (Nat.le_of_ble_eq_true rfl) dX2_takeLong_65 rfl rfl rfl (fun M σ65 a65 e65 b65 hM => ?_)
        refine xn_iinc (q := 71) (ls' := [(0, _), (1, _), (3, _), (5, _)]) [1, 2, 3, 0] 1 dX2_takeLong_68 rfl rfl (by decide) (by decide) rfl ?_
        refine x_goto 29 dX2_takeLong_71 (by decide) ?_
        rw [← div_pow_succ]
        refine ih (i + 1) σ65 M N S (by omega) (k1.trans (a53.l.trans a65.b)) (by rw [e65, mu_n (by decide), a53 b (by simp)]; exact k2) (by rw [e65, mu_s]) (.inr ?_) (fun j hj => ?_) hM
        · rw [Nat.add_sub_cancel]; exact (Nat.div_pos_iff.mp hc37).2
        · rw [a65 _ (by simp), e53]
          by_cases ej : j = i
          · rw [ej]; simp only [upd, if_true]; rfl
          · simp only [upd, if_neg ej]; exact k5 j (by omega)

  refine x_aload_n (q := 1) dX2_takeLong_0 rfl rfl ?_
  refine x_lload_n (q := 2) dX2_takeLong_1 rfl rfl ?_
  refine c_callS (q := 5) (As := [_]) hM imJ13_signum_95d88 isJ13_signum_95d88 mwX2_36 dX2_takeLong_2 rfl rfl rfl (Nat.le_of_ble_eq_true rfl) ?_
  refine (cC.of_x (fun M N S => j_signum G l d M N S (iL z))).mono (fun x9 σ9' hp => ?_)
  obtain ⟨rfl, e9⟩ := hp
  intro M N S hM
  rw [e9] at hM; clear e9 σ9'
  rw [hzt]
  show xX G l _ (d + 1) _ _ _ _ M N S
  refine c_puti (q := 8) (k := b) (f := 0) hM (cE_big _ _ hb) (by rw [cE_big _ _ hb, mu_s]; rfl) xclX2 fwX2_23 (by decide) rfl rfl (Nat.le_of_ble_eq_true rfl) dX2_takeLong_5 rfl rfl rfl (fun M σ5 a5 e5 b5 hM => ?_)
  refine x_lload_n (q := 9) dX2_takeLong_8 rfl rfl ?_
  refine xn_lconst (q := 10) 0 dX2_takeLong_9 rfl (by decide) ?_
  refine xi_lcmp_ge (q1 := 11) (q := 14) 19 dX2_takeLong_10 rfl dX2_takeLong_11 (by decide) rfl rfl (lN_i' _) (by omega) (by omega) (by omega) (by omega) (fun hc10 => ?_) (fun hc10 => ?_)
  · refine x_lload_n (q := 20) dX2_takeLong_19 rfl rfl ?_
    refine x_lstore_n (q := 21) (ls' := [(0, _), (1, _), (3, _)]) [1, 2, 0] dX2_takeLong_20 rfl (by decide) rfl ?_
    refine x_aload_n (q := 22) dX2_takeLong_21 rfl rfl ?_
    refine xn_iconst (q := 23) 0 dX2_takeLong_22 rfl (by decide) ?_
    refine c_puti (q := 26) (k := b) (f := 1) hM (cE_big _ _ hb) (by rw [cE_big _ _ hb, mu_s]; rfl) xclX2 fwX2_13 (by decide) rfl rfl (Nat.le_of_ble_eq_true rfl) dX2_takeLong_23 rfl rfl rfl (fun M σ23 a23 e23 b23 hM => ?_)
    refine xn_iconst (q := 27) 0 dX2_takeLong_26 rfl (by decide) ?_
    refine x_istore (q := 29) (ls' := [(0, _), (1, _), (3, _), (5, _)]) [1, 2, 3, 0] dX2_takeLong_27 rfl (by decide) rfl ?_
    have hlp : ∀ y : Int64, y = lN (z.natAbs / B9 ^ 0) → xX G l YX2_takeLong (d + 1) (cQ G ad F R _) 29 [(0, .ref (ad b)), (1, .long (iL z)), (3, .long y), (5, .int (nI 0))] [] M N S := fun y hy => by rw [hy]; exact loop 3 0 σ23 M N S (by decide) (a5.b.trans a23.b) (by rw [e23, mu_n (by decide), e5, mu_s]) (by rw [e23, mu_s]) (.inl rfl) (fun j hj => absurd hj (Nat.not_lt_zero j)) hM
    refine hlp _ ?_
    rw [Nat.pow_zero, Nat.div_one]
    exact lN_of_toInt (z := (z.natAbs : Int)) (by first | (rw [show (-z) = (z.natAbs : Int) by omega]; exact iL_t (by omega) (by omega)) | (rw [show (iL z).toInt = z from hzt]; omega)) (by omega)
  · refine x_lload_n (q := 15) dX2_takeLong_14 rfl rfl ?_
    refine xi_lneg (q := 16) dX2_takeLong_15 rfl rfl ?_
    refine x_goto 20 dX2_takeLong_16 (by decide) ?_
    refine x_lstore_n (q := 21) (ls' := [(0, _), (1, _), (3, _)]) [1, 2, 0] dX2_takeLong_20 rfl (by decide) rfl ?_
    refine x_aload_n (q := 22) dX2_takeLong_21 rfl rfl ?_
    refine xn_iconst (q := 23) 0 dX2_takeLong_22 rfl (by decide) ?_
    refine c_puti (q := 26) (k := b) (f := 1) hM (cE_big _ _ hb) (by rw [cE_big _ _ hb, mu_s]; rfl) xclX2 fwX2_13 (by decide) rfl rfl (Nat.le_of_ble_eq_true rfl) dX2_takeLong_23 rfl rfl rfl (fun M σ23 a23 e23 b23 hM => ?_)
    refine xn_iconst (q := 27) 0 dX2_takeLong_26 rfl (by decide) ?_
    refine x_istore (q := 29) (ls' := [(0, _), (1, _), (3, _), (5, _)]) [1, 2, 3, 0] dX2_takeLong_27 rfl (by decide) rfl ?_
    have hlp : ∀ y : Int64, y = lN (z.natAbs / B9 ^ 0) → xX G l YX2_takeLong (d + 1) (cQ G ad F R _) 29 [(0, .ref (ad b)), (1, .long (iL z)), (3, .long y), (5, .int (nI 0))] [] M N S := fun y hy => by rw [hy]; exact loop 3 0 σ23 M N S (by decide) (a5.b.trans a23.b) (by rw [e23, mu_n (by decide), e5, mu_s]) (by rw [e23, mu_s]) (.inl rfl) (fun j hj => absurd hj (Nat.not_lt_zero j)) hM
    refine hlp _ ?_
    rw [Nat.pow_zero, Nat.div_one]
    exact lN_of_toInt (z := (z.natAbs : Int)) (by first | (rw [show (-z) = (z.natAbs : Int) by omega]; exact iL_t (by omega) (by omega)) | (rw [show (iL z).toInt = z from hzt]; omega)) (by omega)

end XZ
