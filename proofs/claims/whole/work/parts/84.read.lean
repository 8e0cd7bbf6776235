section XE1
theorem rdN_le {t : List Nat} {f : Nat} {w : Bool} (h : f ≤ t.length) : (rdN t f w).1 ≤ t.length := by
  unfold rdN
  split
  · rename_i e
    have h1 : sn t f = 46 ∨ sn t f = 83 ∨ sn t f = 84 ∨ sn t f = 70 := of_decide_eq_true e.2
    exact sn_lt (by omega)
  · exact h
theorem rdH_le {t : List Nat} {f : Nat} {w : Bool} (h : f ≤ t.length) : (rdH t f w).1 ≤ t.length := by
  unfold rdH
  split
  · rename_i e; exact sn_lt (by have := e.2; omega)
  · exact h
theorem rdX_le {t : List Nat} {f : Nat} {w : Bool} (h : f ≤ t.length) : (rdX t f w).1 ≤ t.length := by
  unfold rdX
  split
  · rename_i e; exact sn_lt (by have := e.2; omega)
  · exact h
theorem rdU_le {t : List Nat} {f : Nat} {w : Bool} (h : f ≤ t.length) : (rdU t f w).2.1 ≤ t.length := by
  unfold rdU
  split
  · rename_i e
    have h1 : f < t.length := sn_lt (by have := e.2; omega)
    split
    · rename_i e2
      have h2 : f + 1 < t.length := sn_lt (by omega)
      split
      · exact h
      · exact h2
    · exact h1
  · exact h
theorem pst_le (t : List Nat) : ∀ n, (pst t n).1 ≤ t.length
  | 0 => rdN_le (Nat.zero_le _)
  | n + 1 => rdN_le (rdH_le (rdU_le (rdX_le (rdU_le (rdH_le (pst_le t n))))))

set_option maxRecDepth 100000 in
set_option maxHeartbeats 4000000 in
theorem b_read (G : xG) (l : Launch) (ad : Nat → Nat) (F : xM) (R : Nat × Nat) (d : Nat) (σ : cZ) (c : mCf) (hc : Bm σ 1 c) (t : List Nat) (ht : Tx σ t) (rs : List (Nat × Nat × Nat)) : cC G l ad F R YX8_read (d + 4) [.ref (ad 0)] σ (fun r σ' => r = some (.int (iI (spRead (c, t, rs)).1)) ∧ kp [0, 1, 2, 3, 4, 14, 15, 16, 17, 18, 19, 20, 21, 22, 23, 24, 25] σ σ' ∧ Tx σ' [] ∧ (if rdBad t = true then σ' 0 = σ 0 ∧ σ' 4 = σ 4 ∧ Bm σ' 1 c else Bm σ' 1 (rdCf t) ∧ (σ' 4).1 13 = nI 0 ∧ (σ' 0).1 12 = nI 0 ∧ (σ' 0).2.1 13 = iL (-1))) := by
  have hf := pst_le t (rdn t)
  have hl50 := ht.1
  have hn3 := rdn_le t
  refine cC.of (ls := [(0, .ref (ad 0))]) (by decide) (Nat.le_of_ble_eq_true rfl) rfl fun M N S hM => ?_

  refine x_aload_n (q := 1) dX8_read_0 rfl rfl ?_
  refine c_get (q := 4) (k := 0) (f := 2) hM rfl xclX8 fwX8_22 (by decide) dX8_read_1 rfl rfl ?_
  refine x_aload_n (q := 5) dX8_read_4 rfl rfl ?_
  refine c_get (q := 8) (k := 0) (f := 1) hM rfl xclX8 fwX8_16 (by decide) dX8_read_5 rfl rfl ?_
  refine c_call (q := 11) (k := 3) (As := [_]) hM rfl imX7_tell ivX7_tell ilX7_tell mwX8_92 xciX7 dX8_read_8 rfl rfl rfl (Nat.le_of_ble_eq_true rfl) ?_
  refine (b_tell G l ad F R (d + 0) σ t ht).mono (fun x9 σ8 hp => ?_)
  obtain ⟨rfl, q1, q2, q3⟩ := hp
  intro M N S hM
  show xX G l _ (d + 4) _ _ _ _ M N S
  refine x_istore_n (q := 12) (ls' := [(0, _), (1, _)]) [1, 0] dX8_read_11 rfl (by decide) rfl ?_
  refine x_aload_n (q := 13) dX8_read_12 rfl rfl ?_
  refine c_get (q := 16) (k := 0) (f := 2) hM rfl xclX8 fwX8_22 (by decide) dX8_read_13 rfl rfl ?_
  refine c_call (q := 19) (k := 3) (As := []) hM rfl imX7_empty ivX7_empty ilX7_empty mwX8_96 xciX7 dX8_read_16 rfl rfl rfl (Nat.le_of_ble_eq_true rfl) ?_
  refine (b_empty G l ad F R (d + 3) σ8 t q2).mono (fun x9 σ16 hp => ?_)
  obtain ⟨rfl, r1, r2⟩ := hp
  intro M N S hM
  show xX G l _ (d + 4) _ _ _ _ M N S
  have hsp : (spRead (c, t, rs)).1 = (if rdBad t = true then -1 - ((pst t (rdn t)).1 : Int) else (rdn t : Int)) := by unfold spRead; show (if rdBad t = true then _ else _ : Int × mT).1 = _; split <;> rfl
  refine x_iload_n (q := 20) dX8_read_19 rfl rfl ?_
  refine xi_if_le (q := 23) 43 dX8_read_20 (by decide) rfl rfl (by omega) (by omega) (fun hc20 => ?_) (fun hc20 => ?_)
  · have hbad : rdBad t = true := by cases h : rdBad t with | true => rfl | false => have h9 := rdn_pos h; rw [h, if_neg (by decide)] at hc20; omega
    refine x_iload_n (q := 44) dX8_read_43 rfl rfl ?_
    exact x_iret rfl dX8_read_44 (c_ret hM ⟨by rw [hsp, hbad], (q1.mono (by decide)).trans (r1.mono (by decide)), r2, by rw [hbad, if_pos rfl]; exact ⟨by rw [r1 0 (by decide), q1 0 (by decide)], by rw [r1 4 (by decide), q1 4 (by decide)], (hc.kp q1 (by decide)).kp r1 (by decide)⟩⟩)
  · have hbad : rdBad t = false := by cases h : rdBad t with | false => rfl | true => rw [h, if_pos rfl] at hc20; omega
    refine x_aload_n (q := 24) dX8_read_23 rfl rfl ?_
    refine c_get (q := 27) (k := 0) (f := 0) hM rfl xclX8 fwX8_10 (by decide) dX8_read_24 rfl rfl ?_
    refine x_aload_n (q := 28) dX8_read_27 rfl rfl ?_
    refine c_get (q := 31) (k := 0) (f := 1) hM rfl xclX8 fwX8_16 (by decide) dX8_read_28 rfl rfl ?_
    refine c_call (q := 34) (k := 1) (As := [_]) hM rfl imX1_take ivX1_take ilX1_take mwX8_99 xciX1 dX8_read_31 rfl rfl rfl (Nat.le_of_ble_eq_true rfl) ?_
    refine (b_btake G l ad F R (d + 2) σ16 (rdCf t) ((q3 hbad).kp r1 (by decide))).mono (fun x9 σ31 hp => ?_)
    obtain ⟨rfl, t1, t2⟩ := hp
    intro M N S hM
    show xX G l _ (d + 4) _ _ _ _ M N S
    refine x_aload_n (q := 35) dX8_read_34 rfl rfl ?_
    refine xn_iconst (q := 36) 0 dX8_read_35 rfl (by decide) ?_
    refine c_puti (q := 39) (k := 0) (f := 12) hM rfl rfl xclX8 fwX8_78 (by decide) rfl rfl (Nat.le_of_ble_eq_true rfl) dX8_read_36 rfl rfl rfl (fun M σ36 a36 e36 b36 hM => ?_)
    refine x_aload_n (q := 40) dX8_read_39 rfl rfl ?_
    refine c_call (q := 43) (k := 0) (As := []) hM rfl imX8_changed ivX8_changed ilX8_changed mwX8_102 xciX8 dX8_read_40 rfl rfl rfl (Nat.le_of_ble_eq_true rfl) ?_
    refine (b_changed G l ad F R (d + 2) σ36).mono (fun x9 σ40 hp => ?_)
    obtain ⟨rfl, u1, u2, u3, u4⟩ := hp
    intro M N S hM
    show xX G l _ (d + 4) _ _ _ _ M N S
    refine x_iload_n (q := 44) dX8_read_43 rfl rfl ?_
    exact x_iret rfl dX8_read_44 (c_ret hM ⟨by rw [hsp, hbad], (q1.mono (by decide)).trans ((r1.mono (by decide)).trans ((t1.mono (by decide)).trans ((a36.mono (by decide)).trans (u1.mono (by decide))))), ((r2.of_kp t1 (by decide) (by decide)).of_kp a36 (by decide) (by decide)).of_kp u1 (by decide) (by decide), by rw [hbad, if_neg (by decide)]; exact ⟨(t2.kp a36 (by decide)).kp u1 (by decide), u2, by rw [u3, e36, mu_s], u4⟩⟩)

set_option maxRecDepth 100000 in
set_option maxHeartbeats 4000000 in
theorem b_isAnswered (G : xG) (l : Launch) (ad : Nat → Nat) (F : xM) (R : Nat × Nat) (d : Nat) (σ : cZ) (c : mCf) (hc : Bm σ 1 c) (rs : List (Nat × Nat × Nat)) (hr : Rc σ c rs) (sl : Nat → Bool) (hs : Slk σ sl) (n q : Int) (hn1 : -2147483648 ≤ n) (hn2 : n < 2147483648) (hq1 : -2147483648 ≤ q) (hq2 : q < 2147483648) : cC G l ad F R YX8_isAnswered (d + 2) [.ref (ad 0), .int (iI n), .int (iI q)] σ (fun r σ' => r = some (.int (bI (decide (-1 ≤ q ∧ 0 ≤ n ∧ n < (rs.length : Int) ∧ slN sl 4 = 0 ∧ ((rowAt rs n.toNat).1 ≠ 3 ∨ c.Hi (rowAt rs n.toNat).2.1 = true))))) ∧ σ' = σ) := by
  have hm := hc.1
  have h8 := hr.1
  refine cC.of (ls := [(0, .ref (ad 0)), (1, .int (iI n)), (2, .int (iI q))]) (by decide) (Nat.le_of_ble_eq_true rfl) rfl fun M N S hM => ?_

  refine x_iload_n (q := 1) dX8_isAnswered_0 rfl rfl ?_
  refine x_iconst (q := 2) (iI (-1)) dX8_isAnswered_1 rfl (by decide) ?_
  refine xi_icmp_lt (q := 5) 20 dX8_isAnswered_2 (by decide) rfl rfl rfl (by omega) (by omega) (by omega) (by omega) (fun hc2 => ?_) (fun hc2 => ?_)
  · refine xn_iconst (q := 21) 0 dX8_isAnswered_20 rfl (by decide) ?_
    exact x_zret rfl (by decide) dX8_isAnswered_21 (c_ret hM ⟨by rw [decide_eq_false (fun z => by omega)]; rfl, rfl⟩)
  · refine x_aload_n (q := 6) dX8_isAnswered_5 rfl rfl ?_
    refine x_iload_n (q := 7) dX8_isAnswered_6 rfl rfl ?_
    refine c_call (q := 10) (k := 0) (As := [_]) hM rfl imX8_isRow ivX8_isRow ilX8_isRow mwX8_194 xciX8 dX8_isAnswered_7 rfl rfl rfl (Nat.le_of_ble_eq_true rfl) ?_
    refine (b_isRow G l ad F R (d + 1) σ c rs hr n hn1 hn2).mono (fun x9 σ9' hp => ?_)
    obtain ⟨rfl, e9⟩ := hp
    intro M N S hM
    rw [e9] at hM; clear e9 σ9'
    show xX G l _ (d + 2) _ _ _ _ M N S
    refine x_if_eq (q := 13) 20 dX8_isAnswered_10 (by decide) rfl (fun hc10 => ?_) (fun hc10 => ?_)
    · refine xn_iconst (q := 21) 0 dX8_isAnswered_20 rfl (by decide) ?_
      have h9 := of_decide_eq_false (bI_eq.mp hc10)
      exact x_zret rfl (by decide) dX8_isAnswered_21 (c_ret hM ⟨by rw [decide_eq_false (fun z => by omega)]; rfl, rfl⟩)
    · refine x_aload_n (q := 14) dX8_isAnswered_13 rfl rfl ?_
      refine c_call (q := 17) (k := 0) (As := []) hM rfl imX8_isLoose ivX8_isLoose ilX8_isLoose mwX8_197 xciX8 dX8_isAnswered_14 rfl rfl rfl (Nat.le_of_ble_eq_true rfl) ?_
      refine (b_isLoose G l ad F R d σ sl hs).mono (fun x9 σ9' hp => ?_)
      obtain ⟨rfl, e9⟩ := hp
      intro M N S hM
      rw [e9] at hM; clear e9 σ9'
      show xX G l _ (d + 2) _ _ _ _ M N S
      refine x_if_eq (q := 20) 22 dX8_isAnswered_17 (by decide) rfl (fun hc17 => ?_) (fun hc17 => ?_)
      · have hrw := of_decide_eq_true (bI_ne.mp hc10)
        have hls := of_decide_eq_false (bI_eq.mp hc17)
        have hr3 := hr.2.2 n.toNat (by omega)
        have hrow : ((rowAt rs n.toNat).1 ≤ 2 ∧ (rowAt rs n.toNat).2.1 < c.m ∧ (rowAt rs n.toNat).2.2 ≤ 4) ∨ ((rowAt rs n.toNat).1 = 3 ∧ (rowAt rs n.toNat).2.1 ≤ c.m ∧ (rowAt rs n.toNat).2.2 = 0) := hr3.2.2.2
        have hl8 : n.toNat < 8 := by omega
        refine x_aload_n (q := 23) dX8_isAnswered_22 rfl rfl ?_
        refine c_get (q := 26) (k := 0) (f := 9) hM rfl xclX8 fwX8_68 (by decide) dX8_isAnswered_23 rfl rfl ?_
        refine x_iload_n (q := 27) dX8_isAnswered_26 rfl rfl ?_
        refine x_topi (y := nI n.toNat) (iI_nat (by omega)) ?_
        refine c_iald (q := 28) (k := 11) (n := 8) hM rfl (by decide) (by decide) dX8_isAnswered_27 rfl hl8 ?_
        refine x_topi (y := nI (rowAt rs n.toNat).1) (by exact hr3.1) ?_
        refine xn_iconst (q := 29) 3 dX8_isAnswered_28 rfl (by decide) ?_
        refine xn_icmp_ne (q := 32) 45 dX8_isAnswered_29 (by decide) rfl (by omega) (by omega) (fun hc29 => ?_) (fun hc29 => ?_)
        · refine xn_iconst (q := 46) 1 dX8_isAnswered_45 rfl (by decide) ?_
          refine x_goto 50 dX8_isAnswered_46 (by decide) ?_
          exact x_zret rfl (by decide) dX8_isAnswered_50 (c_ret hM ⟨by rw [decide_eq_true ⟨by omega, by omega, by omega, by omega, .inl hc29⟩]; rfl, rfl⟩)
        · refine x_aload_n (q := 33) dX8_isAnswered_32 rfl rfl ?_
          refine x_aload_n (q := 34) dX8_isAnswered_33 rfl rfl ?_
          refine c_get (q := 37) (k := 0) (f := 10) hM rfl xclX8 fwX8_72 (by decide) dX8_isAnswered_34 rfl rfl ?_
          refine x_iload_n (q := 38) dX8_isAnswered_37 rfl rfl ?_
          refine x_topi (y := nI n.toNat) (iI_nat (by omega)) ?_
          refine c_iald (q := 39) (k := 12) (n := 8) hM rfl (by decide) (by decide) dX8_isAnswered_38 rfl hl8 ?_
          refine x_topi (y := nI (rowAt rs n.toNat).2.1) (by exact hr3.2.1) ?_
          refine x_topi (y := iI ((rowAt rs n.toNat).2.1 : Int)) (nI_i _) ?_
          refine c_call (q := 42) (k := 0) (As := [_]) hM rfl imX8_isHeld ivX8_isHeld ilX8_isHeld mwX8_214 xciX8 dX8_isAnswered_39 rfl rfl rfl (Nat.le_of_ble_eq_true rfl) ?_
          refine (b_isHeld G l ad F R d σ c hc ((rowAt rs n.toNat).2.1 : Int) (by omega) (by omega)).mono (fun x9 σ9' hp => ?_)
          obtain ⟨rfl, e9⟩ := hp
          intro M N S hM
          rw [e9] at hM; clear e9 σ9'
          show xX G l _ (d + 2) _ _ _ _ M N S
          refine x_if_eq (q := 45) 49 dX8_isAnswered_42 (by decide) rfl (fun hc42 => ?_) (fun hc42 => ?_)
          · refine xn_iconst (q := 50) 0 dX8_isAnswered_49 rfl (by decide) ?_
            have hh := bI_eq.mp hc42
            have hnd : ndB c ((rowAt rs n.toNat).2.1 : Int) = true := decide_eq_true ⟨by omega, by rcases hrow with h | h <;> omega⟩
            unfold hdB at hh
            rw [hnd, Bool.true_and, Int.toNat_natCast] at hh
            exact x_zret rfl (by decide) dX8_isAnswered_50 (c_ret hM ⟨by rw [decide_eq_false (fun z => by rcases z.2.2.2.2 with h | h; exact h hc29; rw [hh] at h; exact absurd h (by decide))]; rfl, rfl⟩)
          · refine xn_iconst (q := 46) 1 dX8_isAnswered_45 rfl (by decide) ?_
            refine x_goto 50 dX8_isAnswered_46 (by decide) ?_
            have hh := bI_ne.mp hc42
            unfold hdB at hh
            rw [Bool.and_eq_true, Int.toNat_natCast] at hh
            exact x_zret rfl (by decide) dX8_isAnswered_50 (c_ret hM ⟨by rw [decide_eq_true ⟨by omega, by omega, by omega, by omega, .inr hh.2⟩]; rfl, rfl⟩)
      · refine xn_iconst (q := 21) 0 dX8_isAnswered_20 rfl (by decide) ?_
        have h9 := of_decide_eq_true (bI_ne.mp hc17)
        exact x_zret rfl (by decide) dX8_isAnswered_21 (c_ret hM ⟨by rw [decide_eq_false (fun z => by omega)]; rfl, rfl⟩)

end XE1
