section XB6
def dch (t : List Nat) (n k : Nat) : Nat := if k ≤ n then (pst t n).2.2.1 k else 46
def dCf (t : List Nat) (n : Nat) : mCf := (n, (fun k => if k < n then (pst t n).2.2.2.1 k else 1), (fun k => if k < n then (pst t n).2.2.2.2.1 k else 1), (fun k => decide (k < 2 * n) && (pst t n).2.2.2.2.2 k), (fun k => decide (dch t n k = 83 ∨ dch t n k = 70)), (fun k => decide (dch t n k = 84 ∨ dch t n k = 70)), fun _ => 0)
theorem rdCf_d (t : List Nat) : rdCf t = dCf t (rdn t) := rfl
/-- the draft's arrays -/
def Bc (σ : cZ) (c : mCf) : Prop := (∀ k, k < 3 → (σ 20).2.1 k = lN (c.L k)) ∧ (∀ k, k < 3 → (σ 21).2.1 k = lN (c.E k)) ∧ (∀ k, k < 6 → (σ 22).1 k = bI (c.Hg k)) ∧ (∀ k, k < 4 → (σ 23).1 k = bI (c.Hi k)) ∧ (∀ k, k < 4 → (σ 24).1 k = bI (c.Tu k)) ∧ ∀ k, k < 4 → (σ 25).2.1 k = iL (c.Se k)
theorem pst_s {t : List Nat} {n : Nat} (h : (pst t n).2.1 = false) : (pst t (n + 1)).1 = (rdN t (rbH t (pst t n).1).1 (rbE t (pst t n).1).2.2).1 ∧ (pst t (n + 1)).2.1 = (rdN t (rbH t (pst t n).1).1 (rbE t (pst t n).1).2.2).2 := by
  constructor
  · show (rdB t (pst t n).1 (pst t n).2.1).2.2.2.2.2.1 = _
    rw [h]; rfl
  · show (rdB t (pst t n).1 (pst t n).2.1).2.2.2.2.2.2 = _
    rw [h]; rfl
theorem rdN_f {t : List Nat} {f : Nat} : (rdN t f false).2 = !isND (sn t f) := by
  unfold rdN
  cases h : isND (sn t f) with
  | true => rw [if_pos ⟨rfl, rfl⟩]; rfl
  | false => rw [if_neg (fun z => absurd z.2 (by decide))]; rfl
theorem Bc.step {σ σ1 σ2 : cZ} {t : List Nat} {n : Nat} (hn : n < 3) (h : Bc σ (dCf t n)) (hb : (pst t n).2.1 = false)
    (k2 : kp [3, 20, 21, 22] σ σ1) (h20 : (σ1 20).2.1 = vp_updL (σ 20).2.1 n (lN (rbB t (pst t n).1).1)) (h21 : (σ1 21).2.1 = vp_updL (σ 21).2.1 n (lN (rbE t (pst t n).1).1)) (h22 : (σ1 22).1 = upd (upd (σ 22).1 (2 * n) (bI (rbA t (pst t n).1).2)) (2 * n + 1) (bI (rbH t (pst t n).1).2))
    (k3 : kp [3, 23, 24] σ1 σ2) (h23 : (σ2 23).1 = upd (σ1 23).1 (n + 1) (bI (decide (sn t (rbH t (pst t n).1).1 = 83 ∨ sn t (rbH t (pst t n).1).1 = 70)))) (h24 : (σ2 24).1 = upd (σ1 24).1 (n + 1) (bI (decide (sn t (rbH t (pst t n).1).1 = 84 ∨ sn t (rbH t (pst t n).1).1 = 70)))) : Bc σ2 (dCf t (n + 1)) := by
  obtain ⟨q1, q2, q3, q4, q5, q6⟩ := h
  have e1 : (pst t (n + 1)).2.2.2.1 = mu (pst t n).2.2.2.1 n (rbB t (pst t n).1).1 := by show mu _ n (rdB t (pst t n).1 (pst t n).2.1).1 = _; rw [hb]; rfl
  have e2 : (pst t (n + 1)).2.2.2.2.1 = mu (pst t n).2.2.2.2.1 n (rbE t (pst t n).1).1 := by show mu _ n (rdB t (pst t n).1 (pst t n).2.1).2.1 = _; rw [hb]; rfl
  have e3 : (pst t (n + 1)).2.2.2.2.2 = mu (mu (pst t n).2.2.2.2.2 (2 * n) (rbA t (pst t n).1).2) (2 * n + 1) (rbH t (pst t n).1).2 := by show mu (mu _ (2 * n) (rdB t (pst t n).1 (pst t n).2.1).2.2.1) (2 * n + 1) (rdB t (pst t n).1 (pst t n).2.1).2.2.2.1 = _; rw [hb]; rfl
  have e4 : (pst t (n + 1)).2.2.1 = mu (pst t n).2.2.1 (n + 1) (sn t (rbH t (pst t n).1).1) := by show mu _ (n + 1) (rdB t (pst t n).1 (pst t n).2.1).2.2.2.2.1 = _; rw [hb]; rfl
  have hdch : ∀ k, k ≠ n + 1 → dch t (n + 1) k = dch t n k := fun k hk => by
    unfold dch
    by_cases e : k ≤ n
    · rw [if_pos (by omega), if_pos e, e4, mu_n hk]
    · rw [if_neg (by omega), if_neg e]
  have hdn : dch t (n + 1) (n + 1) = sn t (rbH t (pst t n).1).1 := by unfold dch; rw [if_pos (Nat.le_refl _), e4, mu_s]
  refine ⟨fun k hk => ?_, fun k hk => ?_, fun k hk => ?_, fun k hk => ?_, fun k hk => ?_, fun k hk => ?_⟩
  · rw [k3 20 (by decide), h20]
    show _ = lN (if k < n + 1 then (pst t (n + 1)).2.2.2.1 k else 1)
    rw [e1]
    by_cases e : k = n
    · rw [if_pos (by omega), e, mu_s]; simp [vp_updL]
    · rw [mu_n e]; simp only [vp_updL, if_neg e]; rw [q1 k hk]
      show lN (if k < n then _ else 1) = _
      by_cases e' : k < n
      · rw [if_pos e', if_pos (by omega)]
      · rw [if_neg e', if_neg (by omega)]
  · rw [k3 21 (by decide), h21]
    show _ = lN (if k < n + 1 then (pst t (n + 1)).2.2.2.2.1 k else 1)
    rw [e2]
    by_cases e : k = n
    · rw [if_pos (by omega), e, mu_s]; simp [vp_updL]
    · rw [mu_n e]; simp only [vp_updL, if_neg e]; rw [q2 k hk]
      show lN (if k < n then _ else 1) = _
      by_cases e' : k < n
      · rw [if_pos e', if_pos (by omega)]
      · rw [if_neg e', if_neg (by omega)]
  · rw [k3 22 (by decide), h22]
    show _ = bI (decide (k < 2 * (n + 1)) && (pst t (n + 1)).2.2.2.2.2 k)
    rw [e3]
    by_cases e : k = 2 * n + 1
    · rw [e, mu_s, decide_eq_true (by omega), Bool.true_and]; simp [upd]
    · by_cases e' : k = 2 * n
      · rw [e', mu_n (by omega), mu_s, decide_eq_true (by omega), Bool.true_and]; simp only [upd]; rw [if_neg (by omega), if_pos trivial]
      · rw [mu_n e, mu_n e']; simp only [upd, if_neg e, if_neg e']; rw [q3 k hk]
        show bI (decide (k < 2 * n) && _) = _
        by_cases e2 : k < 2 * n
        · rw [decide_eq_true e2, decide_eq_true (by omega)]
        · rw [decide_eq_false e2, decide_eq_false (by omega)]
  · rw [h23, k2 23 (by decide)]
    show _ = bI (decide (dch t (n + 1) k = 83 ∨ dch t (n + 1) k = 70))
    by_cases e : k = n + 1
    · rw [e, hdn]; simp [upd]
    · rw [hdch k e]; simp only [upd, if_neg e]; exact q4 k hk
  · rw [h24, k2 24 (by decide)]
    show _ = bI (decide (dch t (n + 1) k = 84 ∨ dch t (n + 1) k = 70))
    by_cases e : k = n + 1
    · rw [e, hdn]; simp [upd]
    · rw [hdch k e]; simp only [upd, if_neg e]; exact q5 k hk
  · rw [k3 25 (by decide), k2 25 (by decide)]; exact q6 k hk

set_option maxRecDepth 100000 in
set_option maxHeartbeats 4000000 in
theorem b_tell (G : xG) (l : Launch) (ad : Nat → Nat) (F : xM) (R : Nat × Nat) (d : Nat) (σ : cZ) (t : List Nat) (ht : Tx σ t) : cC G l ad F R YX7_tell (d + 3) [.ref (ad 3), .ref (ad 2)] σ (fun r σ' => r = some (.int (iI (if rdBad t = true then -1 - ((pst t (rdn t)).1 : Int) else (rdn t : Int)))) ∧ kp [2, 3, 20, 21, 22, 23, 24, 25] σ σ' ∧ Tx σ' t ∧ (rdBad t = false → Bm σ' 2 (rdCf t))) := by
  have fin : ∀ (n : Nat) (σ1 : cZ) (M : xM) (N S : Nat), n = rdn t → n ≤ 3 → kp [2, 3, 20, 21, 22, 23, 24, 25] σ σ1 → Tf σ1 t (pst t n).1 → (σ1 2).1 6 = nI n → ((pst t n).2.1 = false → Bc σ1 (dCf t n)) → cA G ad F R σ1 M N S → xX G l YX7_tell (d + 3) (cQ G ad F R (fun r σ' => r = some (.int (iI (if rdBad t = true then -1 - ((pst t (rdn t)).1 : Int) else (rdn t : Int)))) ∧ kp [2, 3, 20, 21, 22, 23, 24, 25] σ σ' ∧ Tx σ' t ∧ (rdBad t = false → Bm σ' 2 (rdCf t)))) 91 [(0, .ref (ad 3)), (1, .ref (ad 2)), (2, .int (bI (!(pst t n).2.1)))] [] M N S := by
    intro n σ1 M N S hr hn k1 k2 k3 k4 hM
    have hl := k2.1.1
    have hf := k2.2.2
    have hbad : rdBad t = ((pst t n).2.1 || decide ((pst t n).1 < t.length)) := by rw [hr]; rfl

    refine x_iload_n (q := 92) dX7_tell_91 rfl rfl ?_
    refine x_if_eq (q := 95) 113 dX7_tell_92 (by decide) rfl (fun hc92 => ?_) (fun hc92 => ?_)
    · refine x_iconst (q := 114) (iI (-1)) dX7_tell_113 rfl (by decide) ?_
      refine x_aload_n (q := 115) dX7_tell_114 rfl rfl ?_
      refine c_get (q := 118) (k := 3) (f := 2) hM rfl xclX7 fwX7_17 (by decide) dX7_tell_115 rfl rfl ?_
      refine x_topi (y := nI (pst t n).1) (by exact k2.2.1) ?_
      refine xi_isub (q := 119) dX7_tell_118 rfl rfl (nI_i _) ?_
      have hw : (pst t n).2.1 = true := by have := bI_eq.mp hc92; revert this; cases (pst t n).2.1 <;> simp
      have hb : rdBad t = true := by rw [hbad, hw]; rfl
      exact x_iret rfl dX7_tell_119 (c_ret hM ⟨by rw [if_pos hb, ← hr], k1, k2.1, fun h => by rw [hb] at h; exact absurd h (by decide)⟩)
    · refine x_aload_n (q := 96) dX7_tell_95 rfl rfl ?_
      refine c_get (q := 99) (k := 3) (f := 2) hM rfl xclX7 fwX7_17 (by decide) dX7_tell_96 rfl rfl ?_
      refine x_topi (y := nI (pst t n).1) (by exact k2.2.1) ?_
      refine x_aload_n (q := 100) dX7_tell_99 rfl rfl ?_
      refine c_get (q := 103) (k := 3) (f := 1) hM rfl xclX7 fwX7_13 (by decide) dX7_tell_100 rfl rfl ?_
      refine x_topi (y := nI t.length) (by exact k2.1.2.1) ?_
      refine xn_icmp_ne (q := 106) 113 dX7_tell_103 (by decide) rfl (by omega) (by omega) (fun hc103 => ?_) (fun hc103 => ?_)
      · refine x_iconst (q := 114) (iI (-1)) dX7_tell_113 rfl (by decide) ?_
        refine x_aload_n (q := 115) dX7_tell_114 rfl rfl ?_
        refine c_get (q := 118) (k := 3) (f := 2) hM rfl xclX7 fwX7_17 (by decide) dX7_tell_115 rfl rfl ?_
        refine x_topi (y := nI (pst t n).1) (by exact k2.2.1) ?_
        refine xi_isub (q := 119) dX7_tell_118 rfl rfl (nI_i _) ?_
        have hb : rdBad t = true := by rw [hbad, decide_eq_true (by omega)]; cases (pst t n).2.1 <;> rfl
        exact x_iret rfl dX7_tell_119 (c_ret hM ⟨by rw [if_pos hb, ← hr], k1, k2.1, fun h => by rw [hb] at h; exact absurd h (by decide)⟩)
      · refine x_aload_n (q := 107) dX7_tell_106 rfl rfl ?_
        refine c_get (q := 110) (k := 2) (f := 6) hM rfl xclX1 fwX7_29 (by decide) dX7_tell_107 rfl rfl ?_
        refine x_topi (y := nI n) (by exact k3) ?_
        refine x_goto 119 dX7_tell_110 (by decide) ?_
        have hw : (pst t n).2.1 = false := by have := bI_ne.mp hc92; revert this; cases (pst t n).2.1 <;> simp
        have hb : rdBad t = false := by rw [hbad, hw, decide_eq_false (by omega)]; rfl
        exact x_iret rfl dX7_tell_119 (c_ret hM ⟨by rw [hb, if_neg (by decide), ← hr, nI_i], k1, k2.1, fun _ => by rw [rdCf_d, ← hr]; exact ⟨hn, k3, k4 hw⟩⟩)

  have loop : ∀ (u n : Nat) (σ1 : cZ) (M : xM) (N S : Nat), n + u = 3 → rdGo t u n = rdn t → n ≤ 3 → kp [2, 3, 20, 21, 22, 23, 24, 25] σ σ1 → Tf σ1 t (pst t n).1 → (σ1 2).1 6 = nI n → ((pst t n).2.1 = false → Bc σ1 (dCf t n)) → cA G ad F R σ1 M N S → xX G l YX7_tell (d + 3) (cQ G ad F R (fun r σ' => r = some (.int (iI (if rdBad t = true then -1 - ((pst t (rdn t)).1 : Int) else (rdn t : Int)))) ∧ kp [2, 3, 20, 21, 22, 23, 24, 25] σ σ' ∧ Tx σ' t ∧ (rdBad t = false → Bm σ' 2 (rdCf t)))) 16 [(0, .ref (ad 3)), (1, .ref (ad 2)), (2, .int (bI (!(pst t n).2.1)))] [] M N S := by
    intro u
    induction u with
    | zero =>
      intro n σ1 M N S hu hgo hn k1 k2 k3 k4 hM
      have hr : n = rdn t := hgo

      refine x_iload_n (q := 17) dX7_tell_16 rfl rfl ?_
      refine x_if_eq (q := 20) 91 dX7_tell_17 (by decide) rfl (fun hc17 => ?_) (fun hc17 => ?_)
      · exact fin n σ1 M N S hr hn k1 k2 k3 k4 hM
      · refine x_aload_n (q := 21) dX7_tell_20 rfl rfl ?_
        refine c_get (q := 24) (k := 2) (f := 6) hM rfl xclX1 fwX7_29 (by decide) dX7_tell_21 rfl rfl ?_
        refine x_topi (y := nI n) (by exact k3) ?_
        refine xn_iconst (q := 25) 3 dX7_tell_24 rfl (by decide) ?_
        refine xn_icmp_ge (q := 28) 91 dX7_tell_25 (by decide) rfl (by omega) (by omega) (fun hc25 => ?_) (fun hc25 => absurd hc25 (by omega))
        exact fin n σ1 M N S hr hn k1 k2 k3 k4 hM

    | succ u ih =>
      intro n σ1 M N S hu hgo hn k1 k2 k3 k4 hM
      have hl := k2.1.1
      have hf := k2.2.2
      have stop : ¬ ((pst t n).2.1 = false ∧ (n = 0 ∨ (pst t n).1 < t.length)) → n = rdn t := fun h => by
        rw [← hgo]; unfold rdGo; rw [if_neg h]
      have go : (pst t n).2.1 = false ∧ (n = 0 ∨ (pst t n).1 < t.length) → rdGo t u (n + 1) = rdn t := fun h => by
        rw [← hgo]; rw [show rdGo t (u + 1) n = if (pst t n).2.1 = false ∧ (n = 0 ∨ (pst t n).1 < t.length) then rdGo t u (n + 1) else n from rfl, if_pos h]
      have s77 : ∀ (v : Bool) (σ2 : cZ) (M : xM) (N S : Nat), rdGo t u (n + 1) = rdn t → v = !(pst t (n + 1)).2.1 → kp [2, 3, 20, 21, 22, 23, 24, 25] σ σ2 → Tf σ2 t (pst t (n + 1)).1 → (σ2 2).1 6 = nI n → ((pst t (n + 1)).2.1 = false → Bc σ2 (dCf t (n + 1))) → cA G ad F R σ2 M N S → xX G l YX7_tell (d + 3) (cQ G ad F R (fun r σ' => r = some (.int (iI (if rdBad t = true then -1 - ((pst t (rdn t)).1 : Int) else (rdn t : Int)))) ∧ kp [2, 3, 20, 21, 22, 23, 24, 25] σ σ' ∧ Tx σ' t ∧ (rdBad t = false → Bm σ' 2 (rdCf t)))) 77 [(0, .ref (ad 3)), (1, .ref (ad 2)), (2, .int (bI (!(pst t n).2.1)))] [.int (bI v)] M N S := by
        intro v σ2 M N S hg hv j1 j2 j3 j4 hM
        rw [hv]

        refine x_istore_n (q := 78) (ls' := [(0, _), (1, _), (2, _)]) [1, 2, 0] dX7_tell_77 rfl (by decide) rfl ?_
        refine x_aload_n (q := 79) dX7_tell_78 rfl rfl ?_
        refine x_dup (q := 80) dX7_tell_79 rfl rfl ?_
        refine c_get (q := 83) (k := 2) (f := 6) hM rfl xclX1 fwX7_29 (by decide) dX7_tell_80 rfl rfl ?_
        refine x_topi (y := nI n) (by exact j3) ?_
        refine xn_iconst (q := 84) 1 dX7_tell_83 rfl (by decide) ?_
        refine xn_iadd (q := 85) dX7_tell_84 rfl ?_
        refine c_puti (q := 88) (k := 2) (f := 6) hM rfl rfl xclX1 fwX7_29 (by decide) rfl rfl (Nat.le_of_ble_eq_true rfl) dX7_tell_85 rfl rfl rfl (fun M σ85 a85 e85 b85 hM => ?_)
        refine x_goto 16 dX7_tell_88 (by decide) ?_
        refine ih (n + 1) σ85 M N S (by omega) hg (by omega) (j1.trans (a85.mono (by decide))) (j2.of_kp a85 (by decide) (by decide)) (by rw [e85, mu_s]) (fun h => ?_) hM
        have := j4 h; unfold Bc at *; rw [a85 20 (by decide), a85 21 (by decide), a85 22 (by decide), a85 23 (by decide), a85 24 (by decide), a85 25 (by decide)]; exact this

      have s46 : (n = 0 ∨ (pst t n).1 < t.length) → (pst t n).2.1 = false → ∀ (M : xM) (N S : Nat), cA G ad F R σ1 M N S → xX G l YX7_tell (d + 3) (cQ G ad F R (fun r σ' => r = some (.int (iI (if rdBad t = true then -1 - ((pst t (rdn t)).1 : Int) else (rdn t : Int)))) ∧ kp [2, 3, 20, 21, 22, 23, 24, 25] σ σ' ∧ Tx σ' t ∧ (rdBad t = false → Bm σ' 2 (rdCf t)))) 46 [(0, .ref (ad 3)), (1, .ref (ad 2)), (2, .int (bI (!(pst t n).2.1)))] [] M N S := by
        intro hz hw M N S hM
        have hps := pst_s (t := t) (n := n) hw

        refine x_aload_n (q := 47) dX7_tell_46 rfl rfl ?_
        refine x_aload_n (q := 48) dX7_tell_47 rfl rfl ?_
        refine x_aload_n (q := 49) dX7_tell_48 rfl rfl ?_
        refine c_get (q := 52) (k := 2) (f := 6) hM rfl xclX1 fwX7_29 (by decide) dX7_tell_49 rfl rfl ?_
        refine x_topi (y := nI n) (by exact k3) ?_
        refine c_call (q := 55) (k := 3) (As := [_, _]) hM rfl imX7_takeBeam ivX7_takeBeam ilX7_takeBeam mwX7_32 xciX7 dX7_tell_52 rfl rfl rfl (Nat.le_of_ble_eq_true rfl) ?_
        refine (b_takeBeam G l ad F R (d + 0) σ1 t (pst t n).1 n k2 (by omega)).mono (fun x9 σ52 hp => ?_)
        obtain ⟨rfl, b1, b2, b3⟩ := hp
        intro M N S hM
        show xX G l _ (d + 3) _ _ _ _ M N S
        refine x_if_eq (q := 58) 76 dX7_tell_55 (by decide) rfl (fun hc55 => ?_) (fun hc55 => ?_)
        · refine xn_iconst (q := 77) 0 dX7_tell_76 rfl (by decide) ?_
          have hee : (rbE t (pst t n).1).2.2 = true := by have := bI_eq.mp hc55; revert this; cases (rbE t (pst t n).1).2.2 <;> simp
          rw [hee, rdN_t] at hps
          refine s77 false σ52 M N S (go ⟨hw, hz⟩) (by rw [hps.2]; rfl) (k1.trans (b1.mono (by decide))) (by rw [hps.1]; exact b2) (by rw [b1 2 (by decide)]; exact k3) (fun h => by rw [hps.2] at h; exact Bool.noConfusion (show true = false from h)) hM
        · have hee : (rbE t (pst t n).1).2.2 = false := by have := bI_ne.mp hc55; revert this; cases (rbE t (pst t n).1).2.2 <;> simp
          refine x_aload_n (q := 59) dX7_tell_58 rfl rfl ?_
          refine x_aload_n (q := 60) dX7_tell_59 rfl rfl ?_
          refine x_aload_n (q := 61) dX7_tell_60 rfl rfl ?_
          refine c_get (q := 64) (k := 2) (f := 6) hM rfl xclX1 fwX7_29 (by decide) dX7_tell_61 rfl rfl ?_
          refine x_topi (y := nI n) (by rw [b1 2 (by decide)]; exact k3) ?_
          refine xn_iconst (q := 65) 1 dX7_tell_64 rfl (by decide) ?_
          refine xn_iadd (q := 66) dX7_tell_65 rfl ?_
          refine c_call (q := 69) (k := 3) (As := [_, _]) hM rfl imX7_takeNode ivX7_takeNode ilX7_takeNode mwX7_25 xciX7 dX7_tell_66 rfl rfl rfl (Nat.le_of_ble_eq_true rfl) ?_
          refine (b_takeNode G l ad F R (d + 1) σ52 t (rbH t (pst t n).1).1 (n + 1) b2 (by omega)).mono (fun x9 σ66 hp => ?_)
          obtain ⟨rfl, d1, d2, d3⟩ := hp
          intro M N S hM
          show xX G l _ (d + 3) _ _ _ _ M N S
          refine x_if_eq (q := 72) 76 dX7_tell_69 (by decide) rfl (fun hc69 => ?_) (fun hc69 => ?_)
          · refine xn_iconst (q := 77) 0 dX7_tell_76 rfl (by decide) ?_
            have hnd := bI_eq.mp hc69
            rw [hee] at hps
            rw [rdN_f, hnd] at hps
            refine s77 false σ66 M N S (go ⟨hw, hz⟩) (by rw [hps.2]; rfl) (k1.trans ((b1.mono (by decide)).trans (d1.mono (by decide)))) (by rw [hps.1]; exact d2) (by rw [d1 2 (by decide), b1 2 (by decide)]; exact k3) (fun h => by rw [hps.2] at h; exact Bool.noConfusion (show true = false from h)) hM
          · refine xn_iconst (q := 73) 1 dX7_tell_72 rfl (by decide) ?_
            refine x_goto 77 dX7_tell_73 (by decide) ?_
            have hnd := bI_ne.mp hc69
            rw [hee] at hps
            rw [rdN_f, hnd] at hps
            refine s77 true σ66 M N S (go ⟨hw, hz⟩) (by rw [hps.2]; rfl) (k1.trans ((b1.mono (by decide)).trans (d1.mono (by decide)))) (by rw [hps.1]; exact d2) (by rw [d1 2 (by decide), b1 2 (by decide)]; exact k3) (fun _ => ?_) hM
            exact (k4 hw).step (by omega) hw b1 (b3 hee).1 (b3 hee).2.1 (b3 hee).2.2 d1 (d3 hnd).1 (d3 hnd).2

      refine x_iload_n (q := 17) dX7_tell_16 rfl rfl ?_
      refine x_if_eq (q := 20) 91 dX7_tell_17 (by decide) rfl (fun hc17 => ?_) (fun hc17 => ?_)
      · exact fin n σ1 M N S (stop (fun h => by have := bI_eq.mp hc17; rw [h.1] at this; exact absurd this (by decide))) hn k1 k2 k3 k4 hM
      · have hw : (pst t n).2.1 = false := by have := bI_ne.mp hc17; revert this; cases (pst t n).2.1 <;> simp
        refine x_aload_n (q := 21) dX7_tell_20 rfl rfl ?_
        refine c_get (q := 24) (k := 2) (f := 6) hM rfl xclX1 fwX7_29 (by decide) dX7_tell_21 rfl rfl ?_
        refine x_topi (y := nI n) (by exact k3) ?_
        refine xn_iconst (q := 25) 3 dX7_tell_24 rfl (by decide) ?_
        refine xn_icmp_ge (q := 28) 91 dX7_tell_25 (by decide) rfl (by omega) (by omega) (fun hc25 => absurd hc25 (by omega)) (fun hc25 => ?_)
        refine x_aload_n (q := 29) dX7_tell_28 rfl rfl ?_
        refine c_get (q := 32) (k := 2) (f := 6) hM rfl xclX1 fwX7_29 (by decide) dX7_tell_29 rfl rfl ?_
        refine x_topi (y := nI n) (by exact k3) ?_
        refine xn_if_eq (q := 35) 46 dX7_tell_32 (by decide) rfl (by omega) (fun hc32 => ?_) (fun hc32 => ?_)
        · exact s46 (.inl hc32) hw M N S hM
        · refine x_aload_n (q := 36) dX7_tell_35 rfl rfl ?_
          refine c_get (q := 39) (k := 3) (f := 2) hM rfl xclX7 fwX7_17 (by decide) dX7_tell_36 rfl rfl ?_
          refine x_topi (y := nI (pst t n).1) (by exact k2.2.1) ?_
          refine x_aload_n (q := 40) dX7_tell_39 rfl rfl ?_
          refine c_get (q := 43) (k := 3) (f := 1) hM rfl xclX7 fwX7_13 (by decide) dX7_tell_40 rfl rfl ?_
          refine x_topi (y := nI t.length) (by exact k2.1.2.1) ?_
          refine xn_icmp_ge (q := 46) 91 dX7_tell_43 (by decide) rfl (by omega) (by omega) (fun hc43 => ?_) (fun hc43 => ?_)
          · exact fin n σ1 M N S (stop (fun h => by omega)) hn k1 k2 k3 k4 hM
          · exact s46 (.inr (by omega)) hw M N S hM

  refine cC.of (ls := [(0, .ref (ad 3)), (1, .ref (ad 2))]) (by decide) (Nat.le_of_ble_eq_true rfl) rfl fun M N S hM => ?_

  refine x_aload_n (q := 1) dX7_tell_0 rfl rfl ?_
  refine xn_iconst (q := 2) 0 dX7_tell_1 rfl (by decide) ?_
  refine c_puti (q := 5) (k := 3) (f := 2) hM rfl rfl xclX7 fwX7_17 (by decide) rfl rfl (Nat.le_of_ble_eq_true rfl) dX7_tell_2 rfl rfl rfl (fun M σ2 a2 e2 b2 hM => ?_)
  refine x_aload_n (q := 6) dX7_tell_5 rfl rfl ?_
  refine c_call (q := 9) (k := 2) (As := []) hM rfl imX1_clear ivX1_clear ilX1_clear mwX7_20 xciX1 dX7_tell_6 rfl rfl rfl (Nat.le_of_ble_eq_true rfl) ?_
  refine (b_clear G l ad F R (d + 1) σ2).mono (fun x9 σ6 hp => ?_)
  obtain ⟨rfl, c1, c2⟩ := hp
  intro M N S hM
  show xX G l _ (d + 3) _ _ _ _ M N S
  refine x_aload_n (q := 10) dX7_tell_9 rfl rfl ?_
  refine x_aload_n (q := 11) dX7_tell_10 rfl rfl ?_
  refine xn_iconst (q := 12) 0 dX7_tell_11 rfl (by decide) ?_
  refine c_call (q := 15) (k := 3) (As := [_, _]) hM rfl imX7_takeNode ivX7_takeNode ilX7_takeNode mwX7_25 xciX7 dX7_tell_12 rfl rfl rfl (Nat.le_of_ble_eq_true rfl) ?_
  have t6 : Tf σ6 t 0 := ⟨⟨ht.1, by rw [c1 3 (by decide), e2, mu_n (by decide)]; exact ht.2.1, fun i hi => by rw [c1 26 (by decide), a2 26 (by decide)]; exact ht.2.2.1 i hi, ht.2.2.2⟩, by rw [c1 3 (by decide), e2, mu_s], Nat.zero_le _⟩
  refine (b_takeNode G l ad F R (d + 1) σ6 t 0 0 t6 (by decide)).mono (fun x9 σ12 hp => ?_)
  obtain ⟨rfl, d1, d2, d3⟩ := hp
  intro M N S hM
  show xX G l _ (d + 3) _ _ _ _ M N S
  refine x_istore_n (q := 16) (ls' := [(0, _), (1, _), (2, _)]) [1, 2, 0] dX7_tell_15 rfl (by decide) rfl ?_
  have hb0 : bI (isND (sn t 0)) = bI (!(pst t 0).2.1) := by show _ = bI (!(rdN t 0 false).2); rw [rdN_f, Bool.not_not]
  rw [hb0]
  refine loop 3 0 σ12 M N S (by decide) rfl (by decide) ((a2.mono (by decide)).trans ((c1.mono (by decide)).trans (d1.mono (by decide)))) d2 (by rw [d1 2 (by decide)]; exact c2.2.1) (fun h => ?_) hM
  have hnd : isND (sn t 0) = true := by have h9 : (rdN t 0 false).2 = false := h; rw [rdN_f] at h9; revert h9; cases isND (sn t 0) <;> simp
  obtain ⟨-, -, q1, q2, q3, q4, q5, q6⟩ := c2
  have hz : ∀ k, k ≠ 0 → dch t 0 k = 46 := fun k hk => by unfold dch; rw [if_neg (by omega)]
  refine ⟨fun k hk => by rw [d1 20 (by decide)]; exact q1 k hk, fun k hk => by rw [d1 21 (by decide)]; exact q2 k hk, fun k hk => by rw [d1 22 (by decide)]; exact q3 k hk, fun k hk => ?_, fun k hk => ?_, fun k hk => by rw [d1 25 (by decide)]; exact q6 k hk⟩
  · rw [(d3 hnd).1]
    show _ = bI (decide (dch t 0 k = 83 ∨ dch t 0 k = 70))
    by_cases e : k = 0
    · rw [e]; simp only [upd, if_true]; rfl
    · rw [hz k e]; simp only [upd, if_neg e]; exact q4 k hk
  · rw [(d3 hnd).2]
    show _ = bI (decide (dch t 0 k = 84 ∨ dch t 0 k = 70))
    by_cases e : k = 0
    · rw [e]; simp only [upd, if_true]; rfl
    · rw [hz k e]; simp only [upd, if_neg e]; exact q5 k hk

end XB6
