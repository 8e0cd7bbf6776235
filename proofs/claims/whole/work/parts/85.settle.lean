section XE2
def msS (c : mCf) (n : Nat) (a : Int) : Nat → Int
  | 0 => 0
  | h + 1 => if c.Hi h = true ∧ c.Se h ≠ 0 then msS c n a h + prI (frP c) (swP c 10).1 (oneP n) (plP c h) 10 * (a * c.Se h) else msS c n a h
def msU (c : mCf) (n : Nat) (a : Int) : Int := if c.Hi n = true then a * c.Se n else msS c n a (c.m + 1)
def msL (c : mCf) (n : Nat) (b : Int) : Int := if c.Hi n = true then b else (swP c 10).2.1 * b
theorem aSe_le {c : mCf} (hse : ∀ k, k < 4 → -1000 ≤ c.Se k ∧ c.Se k ≤ 1000) {a : Int} (ha1 : -1000 ≤ a) (ha2 : a ≤ 1000) {h : Nat} (hh : h < 4) : (a * c.Se h).natAbs ≤ 1000000 := by
  have := hse h hh
  rw [Int.natAbs_mul]
  have q1 : a.natAbs ≤ 1000 := by omega
  have q2 : (c.Se h).natAbs ≤ 1000 := by omega
  exact Nat.mul_le_mul q1 q2
theorem msS_lt {c : mCf} (hok : okL c) (hfo : frOk c) (hse : ∀ k, k < 4 → -1000 ≤ c.Se k ∧ c.Se k ≤ 1000) {n : Nat} {a : Int} (ha1 : -1000 ≤ a) (ha2 : a ≤ 1000) : ∀ h, h ≤ 4 → (msS c n a h).natAbs < B9 ^ (38 + h)
  | 0, _ => by show (0 : Int).natAbs < _; rw [Int.natAbs_zero]; exact B9_pos _
  | h + 1, hh => by
    have h1 := msS_lt hok hfo hse (n := n) ha1 ha2 h (by omega)
    have h2 := B9m (pr_lt10 hfo (oneP_sm n) (plP_sm hok (h := h) (by omega))) (B9_2 (Nat.le_trans (aSe_le hse ha1 ha2 (show h < 4 by omega)) (by decide)))
    show (if c.Hi h = true ∧ c.Se h ≠ 0 then _ else _ : Int).natAbs < _
    split
    · exact B9a h1 (B9up h2 (show 36 + 2 ≤ 38 + h by omega))
    · exact B9up h1 (by omega)

set_option maxRecDepth 100000 in
set_option maxHeartbeats 4000000 in
theorem b_measureSettled (G : xG) (l : Launch) (ad : Nat → Nat) (F : xM) (R : Nat × Nat) (d : Nat) (σ : cZ) (c : mCf) (hc : Bm σ 1 c) (hok : okL c) (hfo : frOk c) (hF : Fk σ c) (hse : ∀ k, k < 4 → -1000 ≤ c.Se k ∧ c.Se k ≤ 1000) (n : Nat) (hn : n ≤ c.m) (a b : Int) (ha1 : -1000 ≤ a) (ha2 : a ≤ 1000) (hb1 : 1 ≤ b) (hb2 : b ≤ 1000) : cC G l ad F R YX8_measureSettled (d + 6) [.ref (ad 0), .int (nI n), .long (iL a), .long (iL b)] σ (fun r σ' => r = none ∧ kp [34, 35, 157, 257, 159, 259, 171, 271, 172, 272] σ σ' ∧ Bg σ' 171 (msU c n a) ∧ Bg σ' 172 (msL c n b)) := by
  have hm := hc.1
  have hn4 : n < 4 := by omega
  have hb9 : b.natAbs ≤ 3000000000 := by omega
  have hbd : (swP c 10).2.1.natAbs < B9 ^ 1000 := B9up (hfo 10 (Nat.le_refl _)).2 (by decide)
  have x0 : (0 : Int).natAbs < B9 ^ 1000 := by rw [Int.natAbs_zero]; exact B9_pos _
  have pr1 := fun h (hh : h < 4) => B9up (pr_lt10 hfo (oneP_sm n) (plP_sm hok (h := h) (by omega))) (show 36 ≤ 1000 by decide)
  have ms1 := fun h (hh : h ≤ 4) => B9up (msS_lt hok hfo hse (n := n) ha1 ha2 h hh) (show 38 + h ≤ 1000 by omega)
  have as1 := fun h (hh : h < 4) => aSe_le hse ha1 ha2 hh
  have loop : c.Hi n = false → ∀ (u h : Nat) (σ1 : cZ) (M : xM) (N S : Nat), h + u = c.m + 1 → kp [34, 35, 157, 257, 159, 259, 171, 271, 172, 272] σ σ1 → Bg σ1 171 (msS c n a h) → Bg σ1 172 0 → cA G ad F R σ1 M N S → xX G l YX8_measureSettled (d + 6) (cQ G ad F R (fun r σ' => r = none ∧ kp [34, 35, 157, 257, 159, 259, 171, 271, 172, 272] σ σ' ∧ Bg σ' 171 (msU c n a) ∧ Bg σ' 172 (msL c n b))) 71 [(0, .ref (ad 0)), (1, .int (nI n)), (2, .long (iL a)), (4, .long (iL b)), (6, .int (nI h))] [] M N S := by
    intro hno u
    have eU : msU c n a = msS c n a (c.m + 1) := if_neg (by rw [hno]; decide)
    have eL : msL c n b = (swP c 10).2.1 * b := if_neg (by rw [hno]; decide)
    induction u with
    | zero =>
      intro h σ1 M N S hh k1 k2 k3 hM
      have hF1 : Fk σ1 c := hF.of_kp k1 (by decide)
      have hc1 : Bm σ1 1 c := bmk' hc k1 (by decide)
      obtain rfl : h = c.m + 1 := by clear hbd hb9 x0; omega

      refine x_iload (q := 73) dX8_measureSettled_71 rfl rfl ?_
      refine x_aload_n (q := 74) dX8_measureSettled_73 rfl rfl ?_
      refine c_get (q := 77) (k := 0) (f := 0) hM rfl xclX8 fwX8_10 (by decide) dX8_measureSettled_74 rfl rfl ?_
      refine c_get (q := 80) (k := 1) (f := 6) hM rfl xclX1 fwX8_201 (by decide) dX8_measureSettled_77 rfl rfl ?_
      refine x_topi (y := nI c.m) (by exact hc1.2.1) ?_
      refine xn_icmp_gt (q := 83) 157 dX8_measureSettled_80 (by decide) rfl (by omega) (by omega) (fun hc80 => ?_) (fun hc80 => absurd hc80 (by clear hbd hb9 x0; omega))
      refine x_aload_n (q := 158) dX8_measureSettled_157 rfl rfl ?_
      refine c_get (q := 161) (k := 0) (f := 7) hM rfl xclX8 fwX8_57 (by decide) dX8_measureSettled_158 rfl rfl ?_
      refine c_get (q := 164) (k := 8) (f := 1) hM rfl xclX6 fwX8_177 (by decide) dX8_measureSettled_161 rfl rfl ?_
      refine x_aload_n (q := 165) dX8_measureSettled_164 rfl rfl ?_
      refine c_get (q := 168) (k := 0) (f := 3) hM rfl xclX8 fwX8_31 (by decide) dX8_measureSettled_165 rfl rfl ?_
      refine c_call (q := 171) (k := 4) (As := []) hM rfl imX4_divisor ivX4_divisor ilX4_divisor mwX8_268 xciX4 dX8_measureSettled_168 rfl rfl rfl (Nat.le_of_ble_eq_true rfl) ?_
      refine (b_divisor G l ad F R (d + 5) σ1).mono (fun x9 σ9' hp => ?_)
      obtain ⟨rfl, e9⟩ := hp
      intro M N S hM
      rw [e9] at hM; clear e9 σ9'
      show xX G l _ (d + 6) _ _ _ _ M N S
      refine x_lload (q := 173) dX8_measureSettled_171 rfl rfl ?_
      refine c_call (q := 176) (k := 172) (As := [_, _]) hM (cE_big _ _ ⟨by decide, by decide⟩) imX2_addTimes ivX2_addTimes ilX2_addTimes mwX8_260 xciX2 dX8_measureSettled_173 rfl rfl rfl (Nat.le_of_ble_eq_true rfl) ?_
      refine (b_addTimes G l ad F R (d + 2) σ1 172 155 ⟨by decide, by decide⟩ ⟨by decide, by decide⟩ (by decide) 0 _ b k3 hF1.2.2.2.2.2.1 hb9 x0 hbd).mono (fun x9 σ173 hp => ?_)
      obtain ⟨rfl, q1, q2⟩ := hp
      intro M N S hM
      show xX G l _ (d + 6) _ _ _ _ M N S
      rw [Int.zero_add] at q2
      exact x_vret rfl dX8_measureSettled_176 (c_ret hM ⟨rfl, k1.trans (q1.mono (by decide)), by rw [eU]; exact q1.bg (by decide) (by decide) k2, by rw [eL]; exact q2⟩)

    | succ u ih =>
      intro h σ1 M N S hh k1 k2 k3 hM
      have hF1 : Fk σ1 c := hF.of_kp k1 (by decide)
      have hc1 : Bm σ1 1 c := bmk' hc k1 (by decide)
      have h4 : h < 4 := by clear hbd hb9 x0; omega
      have hst : msS c n a (h + 1) = if c.Hi h = true ∧ c.Se h ≠ 0 then msS c n a h + prI (frP c) (swP c 10).1 (oneP n) (plP c h) 10 * (a * c.Se h) else msS c n a h := rfl
      have z1 := pr1 h h4
      have z2 := ms1 h (by clear hbd hb9 x0; omega)
      have z3 : (a * c.Se h).natAbs ≤ 3000000000 := Nat.le_trans (as1 h h4) (by decide)
      have zs := hse h h4
      clear pr1 ms1 as1

      refine x_iload (q := 73) dX8_measureSettled_71 rfl rfl ?_
      refine x_aload_n (q := 74) dX8_measureSettled_73 rfl rfl ?_
      refine c_get (q := 77) (k := 0) (f := 0) hM rfl xclX8 fwX8_10 (by decide) dX8_measureSettled_74 rfl rfl ?_
      refine c_get (q := 80) (k := 1) (f := 6) hM rfl xclX1 fwX8_201 (by decide) dX8_measureSettled_77 rfl rfl ?_
      refine x_topi (y := nI c.m) (by exact hc1.2.1) ?_
      refine xn_icmp_gt (q := 83) 157 dX8_measureSettled_80 (by decide) rfl (by clear hbd hb9 x0 z1 z2 z3; omega) (by clear hbd hb9 x0 z1 z2 z3; omega) (fun hc80 => absurd hc80 (by clear hbd hb9 x0 z1 z2 z3; omega)) (fun hc80 => ?_)
      refine x_aload_n (q := 84) dX8_measureSettled_83 rfl rfl ?_
      refine c_get (q := 87) (k := 0) (f := 0) hM rfl xclX8 fwX8_10 (by decide) dX8_measureSettled_84 rfl rfl ?_
      refine c_get (q := 90) (k := 1) (f := 3) hM rfl xclX1 fwX8_123 (by decide) dX8_measureSettled_87 rfl rfl ?_
      refine x_iload (q := 92) dX8_measureSettled_90 rfl rfl ?_
      refine c_zald (q := 93) (k := 17) (n := 4) hM rfl (by decide) (by decide) dX8_measureSettled_92 rfl h4 ?_
      refine x_topi (y := bI (c.Hi h)) (by exact hc1.2.2.2.2.2.1 h h4) ?_
      refine x_if_eq (q := 96) 151 dX8_measureSettled_93 (by decide) rfl (fun hc93 => ?_) (fun hc93 => ?_)
      · refine xn_iinc (q := 154) (ls' := [(0, _), (1, _), (2, _), (4, _), (6, _)]) [1, 2, 3, 4, 0] 1 dX8_measureSettled_151 rfl rfl (by decide) (by decide) rfl ?_
        refine x_goto 71 dX8_measureSettled_154 (by decide) ?_
        exact ih (h + 1) σ1 M N S (by clear hbd hb9 x0 z1 z2 z3; omega) k1 (by rw [hst, if_neg (fun z => by rw [bI_eq.mp hc93] at z; exact absurd z.1 (by decide))]; exact k2) k3 hM
      · refine x_aload_n (q := 97) dX8_measureSettled_96 rfl rfl ?_
        refine c_get (q := 100) (k := 0) (f := 0) hM rfl xclX8 fwX8_10 (by decide) dX8_measureSettled_97 rfl rfl ?_
        refine c_get (q := 103) (k := 1) (f := 5) hM rfl xclX1 fwX8_130 (by decide) dX8_measureSettled_100 rfl rfl ?_
        refine x_iload (q := 105) dX8_measureSettled_103 rfl rfl ?_
        refine c_lald (q := 106) (k := 19) (n := 4) hM rfl (by decide) (by decide) dX8_measureSettled_105 rfl h4 ?_
        refine x_topl (y := iL (c.Se h)) (by exact hc1.2.2.2.2.2.2.2 h h4) ?_
        refine xn_lconst (q := 107) 0 dX8_measureSettled_106 rfl (by decide) ?_
        refine xi_lcmp_eq (q1 := 108) (q := 111) 151 dX8_measureSettled_107 rfl dX8_measureSettled_108 (by decide) rfl rfl (lN_i' _) (by clear hbd hb9 x0 z1 z2 z3; omega) (by clear hbd hb9 x0 z1 z2 z3; omega) (by decide) (by decide) (fun hc107 => ?_) (fun hc107 => ?_)
        · refine xn_iinc (q := 154) (ls' := [(0, _), (1, _), (2, _), (4, _), (6, _)]) [1, 2, 3, 4, 0] 1 dX8_measureSettled_151 rfl rfl (by decide) (by decide) rfl ?_
          refine x_goto 71 dX8_measureSettled_154 (by decide) ?_
          exact ih (h + 1) σ1 M N S (by clear hbd hb9 x0 z1 z2 z3; omega) k1 (by rw [hst, if_neg (fun z => z.2 (by clear hbd hb9 x0 z1 z2 z3; omega))]; exact k2) k3 hM
        · refine x_aload_n (q := 112) dX8_measureSettled_111 rfl rfl ?_
          refine c_get (q := 115) (k := 0) (f := 4) hM rfl xclX8 fwX8_40 (by decide) dX8_measureSettled_112 rfl rfl ?_
          refine x_iload_n (q := 116) dX8_measureSettled_115 rfl rfl ?_
          refine x_iload (q := 118) dX8_measureSettled_116 rfl rfl ?_
          refine x_aload_n (q := 119) dX8_measureSettled_118 rfl rfl ?_
          refine c_get (q := 122) (k := 0) (f := 8) hM rfl xclX8 fwX8_64 (by decide) dX8_measureSettled_119 rfl rfl ?_
          refine c_call (q := 125) (k := 5) (As := [_, _, _]) hM rfl imX5_followSettled ivX5_followSettled ilX5_followSettled mwX8_264 xciX5 dX8_measureSettled_122 rfl rfl rfl (Nat.le_of_ble_eq_true rfl) ?_
          refine (b_follow G l ad F R (d + 0) σ1 5 (.inl rfl) 159 (by decide) c hok hfo hF1 n h hn4 h4).mono (fun x9 σ122 hp => ?_)
          obtain ⟨rfl, q1, q2⟩ := hp
          intro M N S hM
          show xX G l _ (d + 6) _ _ _ _ M N S
          have hc122 : Bm σ122 1 c := bmk' hc1 q1 (by decide)
          refine x_aload_n (q := 126) dX8_measureSettled_125 rfl rfl ?_
          refine c_get (q := 129) (k := 0) (f := 7) hM rfl xclX8 fwX8_57 (by decide) dX8_measureSettled_126 rfl rfl ?_
          refine c_get (q := 132) (k := 8) (f := 0) hM rfl xclX6 fwX8_170 (by decide) dX8_measureSettled_129 rfl rfl ?_
          refine x_aload_n (q := 133) dX8_measureSettled_132 rfl rfl ?_
          refine c_get (q := 136) (k := 0) (f := 8) hM rfl xclX8 fwX8_64 (by decide) dX8_measureSettled_133 rfl rfl ?_
          refine x_lload_n (q := 137) dX8_measureSettled_136 rfl rfl ?_
          refine x_aload_n (q := 138) dX8_measureSettled_137 rfl rfl ?_
          refine c_get (q := 141) (k := 0) (f := 0) hM rfl xclX8 fwX8_10 (by decide) dX8_measureSettled_138 rfl rfl ?_
          refine c_get (q := 144) (k := 1) (f := 5) hM rfl xclX1 fwX8_130 (by decide) dX8_measureSettled_141 rfl rfl ?_
          refine x_iload (q := 146) dX8_measureSettled_144 rfl rfl ?_
          refine c_lald (q := 147) (k := 19) (n := 4) hM rfl (by decide) (by decide) dX8_measureSettled_146 rfl h4 ?_
          refine x_topl (y := iL (c.Se h)) (by exact hc122.2.2.2.2.2.2.2 h h4) ?_
          refine xi_lmul (q := 148) dX8_measureSettled_147 rfl rfl rfl ?_
          refine c_call (q := 151) (k := 171) (As := [_, _]) hM (cE_big _ _ ⟨by decide, by decide⟩) imX2_addTimes ivX2_addTimes ilX2_addTimes mwX8_260 xciX2 dX8_measureSettled_148 rfl rfl rfl (Nat.le_of_ble_eq_true rfl) ?_
          refine (b_addTimes G l ad F R (d + 2) σ122 171 159 ⟨by decide, by decide⟩ ⟨by decide, by decide⟩ (by decide) _ _ (a * c.Se h) (q1.bg (by decide) (by decide) k2) q2 z3 z2 z1).mono (fun x9 σ148 hp => ?_)
          obtain ⟨rfl, r1, r2⟩ := hp
          intro M N S hM
          show xX G l _ (d + 6) _ _ _ _ M N S
          refine xn_iinc (q := 154) (ls' := [(0, _), (1, _), (2, _), (4, _), (6, _)]) [1, 2, 3, 4, 0] 1 dX8_measureSettled_151 rfl rfl (by decide) (by decide) rfl ?_
          refine x_goto 71 dX8_measureSettled_154 (by decide) ?_
          exact ih (h + 1) σ148 M N S (by clear hbd hb9 x0 z1 z2 z3; omega) (k1.trans ((q1.mono (by decide)).trans (r1.mono (by decide)))) (by rw [hst, if_pos ⟨bI_ne.mp hc93, by clear hbd hb9 x0 z1 z2 z3; omega⟩]; exact r2) (r1.bg (by decide) (by decide) (q1.bg (by decide) (by decide) k3)) hM

  have sn1 := as1 n hn4
  have zn := hse n hn4
  clear pr1 ms1 as1 hbd
  refine cC.of (ls := [(0, .ref (ad 0)), (1, .int (nI n)), (2, .long (iL a)), (4, .long (iL b))]) (by decide) (Nat.le_of_ble_eq_true rfl) rfl fun M N S hM => ?_

  refine x_aload_n (q := 1) dX8_measureSettled_0 rfl rfl ?_
  refine c_get (q := 4) (k := 0) (f := 7) hM rfl xclX8 fwX8_57 (by decide) dX8_measureSettled_1 rfl rfl ?_
  refine c_get (q := 7) (k := 8) (f := 0) hM rfl xclX6 fwX8_170 (by decide) dX8_measureSettled_4 rfl rfl ?_
  refine xn_lconst (q := 8) 0 dX8_measureSettled_7 rfl (by decide) ?_
  refine x_topl (y := iL 0) rfl ?_
  refine c_call (q := 11) (k := 171) (As := [_]) hM (cE_big _ _ ⟨by decide, by decide⟩) imX2_takeLong ivX2_takeLong ilX2_takeLong mwX8_256 xciX2 dX8_measureSettled_8 rfl rfl rfl (Nat.le_of_ble_eq_true rfl) ?_
  refine (b_takeLong G l ad F R (d + 4) σ 171 ⟨by decide, by decide⟩ 0 (by decide)).mono (fun x9 σ8 hp => ?_)
  obtain ⟨rfl, q1, q2⟩ := hp
  intro M N S hM
  show xX G l _ (d + 6) _ _ _ _ M N S
  refine x_aload_n (q := 12) dX8_measureSettled_11 rfl rfl ?_
  refine c_get (q := 15) (k := 0) (f := 7) hM rfl xclX8 fwX8_57 (by decide) dX8_measureSettled_12 rfl rfl ?_
  refine c_get (q := 18) (k := 8) (f := 1) hM rfl xclX6 fwX8_177 (by decide) dX8_measureSettled_15 rfl rfl ?_
  refine xn_lconst (q := 19) 0 dX8_measureSettled_18 rfl (by decide) ?_
  refine x_topl (y := iL 0) rfl ?_
  refine c_call (q := 22) (k := 172) (As := [_]) hM (cE_big _ _ ⟨by decide, by decide⟩) imX2_takeLong ivX2_takeLong ilX2_takeLong mwX8_256 xciX2 dX8_measureSettled_19 rfl rfl rfl (Nat.le_of_ble_eq_true rfl) ?_
  refine (b_takeLong G l ad F R (d + 4) σ8 172 ⟨by decide, by decide⟩ 0 (by decide)).mono (fun x9 σ19 hp => ?_)
  obtain ⟨rfl, r1, r2⟩ := hp
  intro M N S hM
  show xX G l _ (d + 6) _ _ _ _ M N S
  have hc19 : Bm σ19 1 c := bmk' (bmk' hc q1 (by decide)) r1 (by decide)
  refine x_aload_n (q := 23) dX8_measureSettled_22 rfl rfl ?_
  refine c_get (q := 26) (k := 0) (f := 0) hM rfl xclX8 fwX8_10 (by decide) dX8_measureSettled_23 rfl rfl ?_
  refine c_get (q := 29) (k := 1) (f := 3) hM rfl xclX1 fwX8_123 (by decide) dX8_measureSettled_26 rfl rfl ?_
  refine x_iload_n (q := 30) dX8_measureSettled_29 rfl rfl ?_
  refine c_zald (q := 31) (k := 17) (n := 4) hM rfl (by decide) (by decide) dX8_measureSettled_30 rfl hn4 ?_
  refine x_topi (y := bI (c.Hi n)) (by exact hc19.2.2.2.2.2.1 n hn4) ?_
  refine x_if_eq (q := 34) 68 dX8_measureSettled_31 (by decide) rfl (fun hc31 => ?_) (fun hc31 => ?_)
  · refine xn_iconst (q := 69) 0 dX8_measureSettled_68 rfl (by decide) ?_
    refine x_istore (q := 71) (ls' := [(0, _), (1, _), (2, _), (4, _), (6, _)]) [1, 2, 3, 4, 0] dX8_measureSettled_69 rfl (by decide) rfl ?_
    exact loop (bI_eq.mp hc31) (c.m + 1) 0 σ19 M N S (by omega) ((q1.mono (by decide)).trans (r1.mono (by decide))) (r1.bg (by decide) (by decide) q2) r2 hM
  · refine x_aload_n (q := 35) dX8_measureSettled_34 rfl rfl ?_
    refine c_get (q := 38) (k := 0) (f := 7) hM rfl xclX8 fwX8_57 (by decide) dX8_measureSettled_35 rfl rfl ?_
    refine c_get (q := 41) (k := 8) (f := 0) hM rfl xclX6 fwX8_170 (by decide) dX8_measureSettled_38 rfl rfl ?_
    refine x_lload_n (q := 42) dX8_measureSettled_41 rfl rfl ?_
    refine x_aload_n (q := 43) dX8_measureSettled_42 rfl rfl ?_
    refine c_get (q := 46) (k := 0) (f := 0) hM rfl xclX8 fwX8_10 (by decide) dX8_measureSettled_43 rfl rfl ?_
    refine c_get (q := 49) (k := 1) (f := 5) hM rfl xclX1 fwX8_130 (by decide) dX8_measureSettled_46 rfl rfl ?_
    refine x_iload_n (q := 50) dX8_measureSettled_49 rfl rfl ?_
    refine c_lald (q := 51) (k := 19) (n := 4) hM rfl (by decide) (by decide) dX8_measureSettled_50 rfl hn4 ?_
    refine x_topl (y := iL (c.Se n)) (by exact hc19.2.2.2.2.2.2.2 n hn4) ?_
    refine xi_lmul (q := 52) dX8_measureSettled_51 rfl rfl rfl ?_
    refine c_call (q := 55) (k := 171) (As := [_]) hM (cE_big _ _ ⟨by decide, by decide⟩) imX2_takeLong ivX2_takeLong ilX2_takeLong mwX8_256 xciX2 dX8_measureSettled_52 rfl rfl rfl (Nat.le_of_ble_eq_true rfl) ?_
    refine (b_takeLong G l ad F R (d + 4) σ19 171 ⟨by decide, by decide⟩ (a * c.Se n) (Nat.lt_of_le_of_lt sn1 (by decide))).mono (fun x9 σ52 hp => ?_)
    obtain ⟨rfl, t1, t2⟩ := hp
    intro M N S hM
    show xX G l _ (d + 6) _ _ _ _ M N S
    refine x_aload_n (q := 56) dX8_measureSettled_55 rfl rfl ?_
    refine c_get (q := 59) (k := 0) (f := 7) hM rfl xclX8 fwX8_57 (by decide) dX8_measureSettled_56 rfl rfl ?_
    refine c_get (q := 62) (k := 8) (f := 1) hM rfl xclX6 fwX8_177 (by decide) dX8_measureSettled_59 rfl rfl ?_
    refine x_lload (q := 64) dX8_measureSettled_62 rfl rfl ?_
    refine c_call (q := 67) (k := 172) (As := [_]) hM (cE_big _ _ ⟨by decide, by decide⟩) imX2_takeLong ivX2_takeLong ilX2_takeLong mwX8_256 xciX2 dX8_measureSettled_64 rfl rfl rfl (Nat.le_of_ble_eq_true rfl) ?_
    refine (b_takeLong G l ad F R (d + 4) σ52 172 ⟨by decide, by decide⟩ b (by omega)).mono (fun x9 σ64 hp => ?_)
    obtain ⟨rfl, u1, u2⟩ := hp
    intro M N S hM
    show xX G l _ (d + 6) _ _ _ _ M N S
    exact x_vret rfl dX8_measureSettled_67 (c_ret hM ⟨rfl, (q1.mono (by decide)).trans ((r1.mono (by decide)).trans ((t1.mono (by decide)).trans (u1.mono (by decide)))), by rw [show msU c n a = a * c.Se n from if_pos (bI_ne.mp hc31)]; exact u1.bg (by decide) (by decide) t2, by rw [show msL c n b = b from if_pos (bI_ne.mp hc31)]; exact u2⟩)

end XE2
