section XE5
def cvB (c : mCf) (n a b q : Int) : Bool := decide ((0 ≤ n ∧ n ≤ (c.m : Int)) ∧ (-1000 ≤ a ∧ a ≤ 1000) ∧ (1 ≤ b ∧ b ≤ 1000) ∧ -1 ≤ q ∧ slN (slC c) 4 = 0)
def cMv (c : mCf) (n a b q : Int) : Int64 := if cvB c n a b q = true then tellv q (rcU (msU c n.toNat a) (msL c n.toNat b)) (rcL (msU c n.toNat a) (msL c n.toNat b)) else iL (refP q)
theorem ms_lt {c : mCf} (hok : okL c) (hfo : frOk c) (hse : ∀ k, k < 4 → -1000 ≤ c.Se k ∧ c.Se k ≤ 1000) {n : Nat} (hn : n < 4) {a b : Int} (ha1 : -1000 ≤ a) (ha2 : a ≤ 1000) (hb1 : 1 ≤ b) (hb2 : b ≤ 1000) : (msU c n a).natAbs < B9 ^ 1000 ∧ (msL c n b).natAbs < B9 ^ 1000 := by
  have hm := hok.1
  have hb : b.natAbs ≤ 3000000000 := by omega
  constructor
  · unfold msU; split
    · exact Nat.lt_of_le_of_lt (aSe_le hse ha1 ha2 hn) (Nat.lt_of_lt_of_le (show 1000000 < B9 ^ 1 by decide) (B9_mono (by decide)))
    · exact B9up (msS_lt hok hfo hse ha1 ha2 (c.m + 1) (by omega)) (by omega)
  · unfold msL; split
    · exact B9up (B9_2 hb) (by decide)
    · exact B9up (B9m (hfo 10 (Nat.le_refl _)).2 (B9_2 hb)) (by decide)

set_option maxRecDepth 100000 in
set_option maxHeartbeats 4000000 in
theorem b_move (G : xG) (l : Launch) (ad : Nat → Nat) (F : xM) (R : Nat × Nat) (d : Nat) (σ : cZ) (c : mCf) (t : List Nat) (rs : List (Nat × Nat × Nat)) (hok : okL c) (hfo : frOk c) (hse : ∀ k, k < 4 → -1000 ≤ c.Se k ∧ c.Se k ≤ 1000) (hC : Ci σ c t rs) (n a b q : Int) (hn1 : -2147483648 ≤ n) (hn2 : n < 2147483648) (ha1 : -9223372036854775808 ≤ a) (ha2 : a < 9223372036854775808) (hb1 : -9223372036854775808 ≤ b) (hb2 : b < 9223372036854775808) (hq1 : -2147483648 ≤ q) (hq2 : q < 2147483648) : cC G l ad F R YX8_move (d + 7) [.ref (ad 0), .int (iI n), .long (iL a), .long (iL b), .int (iI q)] σ (fun r σ' => r = some (.long (cMv c n a b q)) ∧ Ci σ' c t rs) := by
  have hm := hok.1
  have hC0 := hC
  obtain ⟨hc, ht, hr, hF, -⟩ := hC
  have rest : ∀ (σ4 : cZ) (key0 : Int) (M : xM) (N S : Nat), Cj σ4 c t rs → (σ4 0).2.1 13 = iL key0 → -1 ≤ key0 → key0 < 100000000000 → (key0 = -1 ∨ ∃ u v, Kv c rs key0 u v ∧ Bg σ4 171 (rcU u v) ∧ Bg σ4 172 (rcL u v)) → cvB c n a b q = true → cA G ad F R σ4 M N S → xX G l YX8_move (d + 7) (cQ G ad F R (fun r σ' => r = some (.long (cMv c n a b q)) ∧ Ci σ' c t rs)) 103 [(0, .ref (ad 0)), (1, .int (iI n)), (2, .long (iL a)), (4, .long (iL b)), (6, .int (iI q)), (8, .long (iL (1000 + (n * 2001 + a + 1000) * 1001 + b)))] [] M N S := by
    intro σ4 key0 M N S hJ tk1 tk2 tk3 tk4 hAn hM
    obtain ⟨hA1, hA2, hA3, hA4, hA5⟩ := of_decide_eq_true hAn
    have hn4 : n.toNat ≤ c.m := by omega
    have hkb : 1000 ≤ 1000 + (n * 2001 + a + 1000) * 1001 + b ∧ 1000 + (n * 2001 + a + 1000) * 1001 + b < 100000000 := by omega
    have hKv : Kv c rs (1000 + (n * 2001 + a + 1000) * 1001 + b) (msU c n.toNat a) (msL c n.toNat b) := .inr (.inr ⟨n.toNat, a, b, hn4, hA2, hA3, by omega, rfl, rfl⟩)
    have hT : Tl σ4 c rs := ⟨key0, tk1, tk2, tk3, tk4⟩
    obtain ⟨hbU, hbL⟩ := ms_lt hok hfo hse (n := n.toNat) (by omega) hA2.1 hA2.2 hA3.1 hA3.2

    refine x_lload (q := 105) dX8_move_103 rfl rfl ?_
    refine x_aload_n (q := 106) dX8_move_105 rfl rfl ?_
    refine c_get (q := 109) (k := 0) (f := 13) hM rfl xclX8 fwX8_84 (by decide) dX8_move_106 rfl rfl ?_
    refine x_topl (y := iL key0) (by exact tk1) ?_
    refine xi_lcmp_eq (q1 := 110) (q := 113) 134 dX8_move_109 rfl dX8_move_110 (by decide) rfl rfl rfl (by clear hbU hbL; omega) (by clear hbU hbL; omega) (by clear hbU hbL; omega) (by clear hbU hbL; omega) (fun hc109 => ?_) (fun hc109 => ?_)
    · obtain ⟨u9, v9, kv9, bu9, bv9⟩ := tk4.resolve_left (by clear hbU hbL; omega)
      obtain ⟨eu9, ev9⟩ : u9 = msU c n.toNat a ∧ v9 = msL c n.toNat b := by
        clear hbU hbL
        have h8 := hJ.2.2.1.1
        rcases kv9 with ⟨n', k', p', z1, z2, z3, z4, z5, z6⟩ | ⟨n', τ', z1, z2, z3, z4, z5⟩ | ⟨n', a', b', z1, z2, z3, z4, z5, z6⟩
        · exfalso; omega
        · exfalso; have y1 : key0 ≤ 216 := by rw [z3]; split <;> omega
          omega
        · have y1 : n' = n.toNat := by omega
          have y2 : a' = a := by omega
          have y3 : b' = b := by omega
          rw [y1, y2] at z5; rw [y1, y3] at z6; exact ⟨z5, z6⟩
      rw [eu9, ev9] at bu9 bv9
      refine x_aload_n (q := 135) dX8_move_134 rfl rfl ?_
      refine c_get (q := 138) (k := 0) (f := 7) hM rfl xclX8 fwX8_57 (by decide) dX8_move_135 rfl rfl ?_
      refine x_iload (q := 140) dX8_move_138 rfl rfl ?_
      refine c_call (q := 143) (k := 8) (As := [_]) hM rfl imX6_part ivX6_part ilX6_part mwX8_186 xciX6 dX8_move_140 rfl rfl rfl (Nat.le_of_ble_eq_true rfl) ?_
      refine (b_part G l ad F R (d + 5) σ4 q _ _ (by clear hbU hbL; omega) hq2 bu9 bv9).mono (fun x9 σ9' hp => ?_)
      obtain ⟨rfl, e9⟩ := hp
      intro M N S hM
      rw [e9] at hM; clear e9 σ9'
      show xX G l _ (d + 7) _ _ _ _ M N S
      exact x_lret rfl dX8_move_143 (c_ret hM ⟨by rw [show cMv c n a b q = tellv q (rcU (msU c n.toNat a) (msL c n.toNat b)) (rcL (msU c n.toNat a) (msL c n.toNat b)) from if_pos hAn], hJ.ci hT⟩)
    · refine x_aload_n (q := 114) dX8_move_113 rfl rfl ?_
      refine x_iload_n (q := 115) dX8_move_114 rfl rfl ?_
      refine x_topi (y := nI n.toNat) (iI_nat (by clear hbU hbL; omega)) ?_
      refine x_lload_n (q := 116) dX8_move_115 rfl rfl ?_
      refine x_lload (q := 118) dX8_move_116 rfl rfl ?_
      refine c_call (q := 121) (k := 0) (As := [_, _, _]) hM rfl imX8_measureSettled ivX8_measureSettled ilX8_measureSettled mwX8_228 xciX8 dX8_move_118 rfl rfl rfl (Nat.le_of_ble_eq_true rfl) ?_
      refine (b_measureSettled G l ad F R (d + 0) σ4 c hJ.1 hok hfo hJ.2.2.2.1.2 hse n.toNat hn4 a b hA2.1 hA2.2 hA3.1 hA3.2).mono (fun x9 σ118 hp => ?_)
      obtain ⟨rfl, r1, r2, r3⟩ := hp
      intro M N S hM
      show xX G l _ (d + 7) _ _ _ _ M N S
      have J1 := hJ.of_kp r1 (by decide)
      refine x_aload_n (q := 122) dX8_move_121 rfl rfl ?_
      refine c_get (q := 125) (k := 0) (f := 7) hM rfl xclX8 fwX8_57 (by decide) dX8_move_122 rfl rfl ?_
      refine c_call (q := 128) (k := 8) (As := []) hM rfl imX6_reduce ivX6_reduce ilX6_reduce mwX8_183 xciX6 dX8_move_125 rfl rfl rfl (Nat.le_of_ble_eq_true rfl) ?_
      refine (b_reduce G l ad F R (d + 1) σ118 _ _ r2 r3 hbU hbL J1.2.2.2.2.2.1).mono (fun x9 σ125 hp => ?_)
      obtain ⟨rfl, u1, u2, u4, u5⟩ := hp
      intro M N S hM
      show xX G l _ (d + 7) _ _ _ _ M N S
      have J5 := J1.div u1 (by decide) u2
      refine x_aload_n (q := 129) dX8_move_128 rfl rfl ?_
      refine x_lload (q := 131) dX8_move_129 rfl rfl ?_
      refine c_putl (q := 134) (k := 0) (f := 13) hM rfl rfl xclX8 fwX8_84 (by decide) rfl rfl (Nat.le_of_ble_eq_true rfl) dX8_move_131 rfl rfl rfl (fun M σ131 a131 e131 b131 hM => ?_)
      refine x_aload_n (q := 135) dX8_move_134 rfl rfl ?_
      refine c_get (q := 138) (k := 0) (f := 7) hM rfl xclX8 fwX8_57 (by decide) dX8_move_135 rfl rfl ?_
      refine x_iload (q := 140) dX8_move_138 rfl rfl ?_
      refine c_call (q := 143) (k := 8) (As := [_]) hM rfl imX6_part ivX6_part ilX6_part mwX8_186 xciX6 dX8_move_140 rfl rfl rfl (Nat.le_of_ble_eq_true rfl) ?_
      refine (b_part G l ad F R (d + 5) σ131 q _ _ (by clear hbU hbL; omega) hq2 (a131.bg (by decide) (by decide) u4) (a131.bg (by decide) (by decide) u5)).mono (fun x9 σ9' hp => ?_)
      obtain ⟨rfl, e9⟩ := hp
      intro M N S hM
      rw [e9] at hM; clear e9 σ9'
      show xX G l _ (d + 7) _ _ _ _ M N S
      exact x_lret rfl dX8_move_143 (c_ret hM ⟨by rw [show cMv c n a b q = tellv q (rcU (msU c n.toNat a) (msL c n.toNat b)) (rcL (msU c n.toNat a) (msL c n.toNat b)) from if_pos hAn]; rfl, J5.key a131 b131.1 |>.ci (Tl.key a131 (by rw [e131, mu_s]) (by clear hbU hbL; omega) (by clear hbU hbL; omega) hKv u4 u5)⟩)

  have no : ∀ (σ4 : cZ) (f : Nat) (M : xM) (N S : Nat), Ci σ4 c t rs → cvB c n a b q = false → cA G ad F R σ4 M N S → xX G l YX8_move (d + 7) (cQ G ad F R (fun r σ' => r = some (.long (cMv c n a b q)) ∧ Ci σ' c t rs)) 72 [(0, .ref (ad 0)), (1, .int (iI n)), (2, .long (iL a)), (4, .long (iL b)), (6, .int (iI q)), (7, .int (nI f))] [] M N S := by
    intro σ4 f M N S hI hno hM

    refine x_iload (q := 74) dX8_move_72 rfl rfl ?_
    refine x_callS (q := 77) (As := [_]) imX8_refusal isX8_refusal mwX8_158 dX8_move_74 rfl rfl rfl (Nat.le_of_ble_eq_true rfl) ?_
    refine (b_refusal G l (d + 6) M N S q hq1 hq2).mono (fun x9 M9 N9 S9 hp => ?_)
    obtain ⟨rfl, rfl, rfl, rfl⟩ := hp
    show xX G l _ (d + 7) _ _ _ _ _ _ _
    exact x_lret rfl dX8_move_77 (c_ret hM ⟨by rw [show cMv c n a b q = iL (refP q) from if_neg (by rw [hno]; decide)], hI⟩)

  refine cC.of (ls := [(0, .ref (ad 0)), (1, .int (iI n)), (2, .long (iL a)), (4, .long (iL b)), (6, .int (iI q))]) (by decide) (Nat.le_of_ble_eq_true rfl) rfl fun M N S hM => ?_

  refine x_aload_n (q := 1) dX8_move_0 rfl rfl ?_
  refine c_get (q := 4) (k := 0) (f := 3) hM rfl xclX8 fwX8_31 (by decide) dX8_move_1 rfl rfl ?_
  refine c_call (q := 7) (k := 4) (As := []) hM rfl imX4_prepare ivX4_prepare ilX4_prepare mwX8_136 xciX4 dX8_move_4 rfl rfl rfl (Nat.le_of_ble_eq_true rfl) ?_
  refine (b_prepare G l ad F R d σ c hc hok hfo hF).mono (fun x9 σ4 hp => ?_)
  obtain ⟨rfl, q1, q2, q3⟩ := hp
  intro M N S hM
  show xX G l _ (d + 7) _ _ _ _ M N S
  obtain ⟨hJ, hT⟩ := hC0.prep q1 q2 q3
  obtain ⟨key0, tk1, tk2, tk3, tk4⟩ := hT
  have hT : Tl σ4 c rs := ⟨key0, tk1, tk2, tk3, tk4⟩
  refine x_aload_n (q := 8) dX8_move_7 rfl rfl ?_
  refine x_iload_n (q := 9) dX8_move_8 rfl rfl ?_
  refine c_call (q := 12) (k := 0) (As := [_]) hM rfl imX8_isNode ivX8_isNode ilX8_isNode mwX8_221 xciX8 dX8_move_9 rfl rfl rfl (Nat.le_of_ble_eq_true rfl) ?_
  refine (b_isNode G l ad F R (d + 6) σ4 c hJ.1 n hn1 hn2).mono (fun x9 σ9' hp => ?_)
  obtain ⟨rfl, e9⟩ := hp
  intro M N S hM
  rw [e9] at hM; clear e9 σ9'
  show xX G l _ (d + 7) _ _ _ _ M N S
  refine x_if_eq (q := 15) 51 dX8_move_12 (by decide) rfl (fun hc12 => ?_) (fun hc12 => ?_)
  · refine xn_iconst (q := 52) 0 dX8_move_51 rfl (by decide) ?_
    refine x_istore (q := 54) (ls' := [(0, _), (1, _), (2, _), (4, _), (6, _), (7, _)]) [1, 2, 3, 4, 5, 0] dX8_move_52 rfl (by decide) rfl ?_
    refine x_iload (q := 56) dX8_move_54 rfl rfl ?_
    refine xn_if_eq (q := 59) 72 dX8_move_56 (by decide) rfl (by omega) (fun hc56 => ?_) (fun hc56 => absurd hc56 (by decide))
    exact no σ4 0 M N S (hJ.ci hT) (decide_eq_false (fun z => by have h9 := of_decide_eq_false (bI_eq.mp hc12); omega)) hM
  · refine x_lload_n (q := 16) dX8_move_15 rfl rfl ?_
    refine x_ldc2 (q := 19) (-1000) dX8_move_16 rfl cwX8_217 ?_
    refine x_topl (y := iL (-1000)) (by decide) ?_
    refine xi_lcmp_lt (q1 := 20) (q := 23) 51 dX8_move_19 rfl dX8_move_20 (by decide) rfl rfl rfl (by omega) (by omega) (by omega) (by omega) (fun hc19 => ?_) (fun hc19 => ?_)
    · refine xn_iconst (q := 52) 0 dX8_move_51 rfl (by decide) ?_
      refine x_istore (q := 54) (ls' := [(0, _), (1, _), (2, _), (4, _), (6, _), (7, _)]) [1, 2, 3, 4, 5, 0] dX8_move_52 rfl (by decide) rfl ?_
      refine x_iload (q := 56) dX8_move_54 rfl rfl ?_
      refine xn_if_eq (q := 59) 72 dX8_move_56 (by decide) rfl (by omega) (fun hc56 => ?_) (fun hc56 => absurd hc56 (by decide))
      exact no σ4 0 M N S (hJ.ci hT) (decide_eq_false (fun z => by omega)) hM
    · refine x_lload_n (q := 24) dX8_move_23 rfl rfl ?_
      refine xn_ldc2 (q := 27) 1000 dX8_move_24 rfl cwX8_219 ?_
      refine xi_lcmp_gt (q1 := 28) (q := 31) 51 dX8_move_27 rfl dX8_move_28 (by decide) rfl rfl (lN_i' _) (by omega) (by omega) (by omega) (by omega) (fun hc27 => ?_) (fun hc27 => ?_)
      · refine xn_iconst (q := 52) 0 dX8_move_51 rfl (by decide) ?_
        refine x_istore (q := 54) (ls' := [(0, _), (1, _), (2, _), (4, _), (6, _), (7, _)]) [1, 2, 3, 4, 5, 0] dX8_move_52 rfl (by decide) rfl ?_
        refine x_iload (q := 56) dX8_move_54 rfl rfl ?_
        refine xn_if_eq (q := 59) 72 dX8_move_56 (by decide) rfl (by omega) (fun hc56 => ?_) (fun hc56 => absurd hc56 (by decide))
        exact no σ4 0 M N S (hJ.ci hT) (decide_eq_false (fun z => by omega)) hM
      · refine x_lload (q := 33) dX8_move_31 rfl rfl ?_
        refine xn_lconst (q := 34) 1 dX8_move_33 rfl (by decide) ?_
        refine xi_lcmp_lt (q1 := 35) (q := 38) 51 dX8_move_34 rfl dX8_move_35 (by decide) rfl rfl (lN_i' _) (by omega) (by omega) (by omega) (by omega) (fun hc34 => ?_) (fun hc34 => ?_)
        · refine xn_iconst (q := 52) 0 dX8_move_51 rfl (by decide) ?_
          refine x_istore (q := 54) (ls' := [(0, _), (1, _), (2, _), (4, _), (6, _), (7, _)]) [1, 2, 3, 4, 5, 0] dX8_move_52 rfl (by decide) rfl ?_
          refine x_iload (q := 56) dX8_move_54 rfl rfl ?_
          refine xn_if_eq (q := 59) 72 dX8_move_56 (by decide) rfl (by omega) (fun hc56 => ?_) (fun hc56 => absurd hc56 (by decide))
          exact no σ4 0 M N S (hJ.ci hT) (decide_eq_false (fun z => by omega)) hM
        · refine x_lload (q := 40) dX8_move_38 rfl rfl ?_
          refine xn_ldc2 (q := 43) 1000 dX8_move_40 rfl cwX8_219 ?_
          refine xi_lcmp_gt (q1 := 44) (q := 47) 51 dX8_move_43 rfl dX8_move_44 (by decide) rfl rfl (lN_i' _) (by omega) (by omega) (by omega) (by omega) (fun hc43 => ?_) (fun hc43 => ?_)
          · refine xn_iconst (q := 52) 0 dX8_move_51 rfl (by decide) ?_
            refine x_istore (q := 54) (ls' := [(0, _), (1, _), (2, _), (4, _), (6, _), (7, _)]) [1, 2, 3, 4, 5, 0] dX8_move_52 rfl (by decide) rfl ?_
            refine x_iload (q := 56) dX8_move_54 rfl rfl ?_
            refine xn_if_eq (q := 59) 72 dX8_move_56 (by decide) rfl (by omega) (fun hc56 => ?_) (fun hc56 => absurd hc56 (by decide))
            exact no σ4 0 M N S (hJ.ci hT) (decide_eq_false (fun z => by omega)) hM
          · refine xn_iconst (q := 48) 1 dX8_move_47 rfl (by decide) ?_
            refine x_goto 52 dX8_move_48 (by decide) ?_
            refine x_istore (q := 54) (ls' := [(0, _), (1, _), (2, _), (4, _), (6, _), (7, _)]) [1, 2, 3, 4, 5, 0] dX8_move_52 rfl (by decide) rfl ?_
            refine x_iload (q := 56) dX8_move_54 rfl rfl ?_
            refine xn_if_eq (q := 59) 72 dX8_move_56 (by decide) rfl (by omega) (fun hc56 => absurd hc56 (by decide)) (fun hc56 => ?_)
            refine x_iload (q := 61) dX8_move_59 rfl rfl ?_
            refine x_iconst (q := 62) (iI (-1)) dX8_move_61 rfl (by decide) ?_
            refine xi_icmp_lt (q := 65) 72 dX8_move_62 (by decide) rfl rfl rfl (by omega) (by omega) (by omega) (by omega) (fun hc62 => ?_) (fun hc62 => ?_)
            · exact no σ4 1 M N S (hJ.ci hT) (decide_eq_false (fun z => by omega)) hM
            · refine x_aload_n (q := 66) dX8_move_65 rfl rfl ?_
              refine c_call (q := 69) (k := 0) (As := []) hM rfl imX8_isLoose ivX8_isLoose ilX8_isLoose mwX8_197 xciX8 dX8_move_66 rfl rfl rfl (Nat.le_of_ble_eq_true rfl) ?_
              refine (b_isLoose G l ad F R (d + 5) σ4 (slC c) hJ.2.2.2.1.2.2.2.2.2.2.2).mono (fun x9 σ9' hp => ?_)
              obtain ⟨rfl, e9⟩ := hp
              intro M N S hM
              rw [e9] at hM; clear e9 σ9'
              show xX G l _ (d + 7) _ _ _ _ M N S
              refine x_if_eq (q := 72) 78 dX8_move_69 (by decide) rfl (fun hc69 => ?_) (fun hc69 => ?_)
              · have h19 := of_decide_eq_true (bI_ne.mp hc12)
                refine xn_ldc2 (q := 81) 1000 dX8_move_78 rfl cwX8_219 ?_
                refine x_iload_n (q := 82) dX8_move_81 rfl rfl ?_
                refine xi_i2l (q := 83) dX8_move_82 rfl rfl (by omega) (by omega) ?_
                refine xn_ldc2 (q := 86) 2001 dX8_move_83 rfl cwX8_224 ?_
                refine xi_lmul (q := 87) dX8_move_86 rfl rfl (lN_i' _) ?_
                refine x_lload_n (q := 88) dX8_move_87 rfl rfl ?_
                refine xi_ladd (q := 89) dX8_move_88 rfl rfl rfl ?_
                refine xn_ldc2 (q := 92) 1000 dX8_move_89 rfl cwX8_219 ?_
                refine xi_ladd (q := 93) dX8_move_92 rfl rfl (lN_i' _) ?_
                refine xn_ldc2 (q := 96) 1001 dX8_move_93 rfl cwX8_226 ?_
                refine xi_lmul (q := 97) dX8_move_96 rfl rfl (lN_i' _) ?_
                refine xi_ladd (q := 98) dX8_move_97 rfl (lN_i' _) rfl ?_
                refine x_lload (q := 100) dX8_move_98 rfl rfl ?_
                refine xi_ladd (q := 101) dX8_move_100 rfl rfl rfl ?_
                refine x_lstore (q := 103) (ls' := [(0, _), (1, _), (2, _), (4, _), (6, _), (7, _), (8, _)]) [1, 2, 3, 4, 5, 6, 0] dX8_move_101 rfl (by decide) rfl ?_
                refine x_ls (ls' := [(0, _), (1, _), (2, _), (4, _), (6, _), (8, _)]) [0, 1, 2, 3, 4, 6] rfl ?_
                exact rest σ4 key0 M N S hJ tk1 tk2 tk3 tk4 (decide_eq_true ⟨by omega, by omega, by omega, by omega, by have h9 := of_decide_eq_false (bI_eq.mp hc69); omega⟩) hM
              · exact no σ4 1 M N S (hJ.ci hT) (decide_eq_false (fun z => by have h9 := of_decide_eq_true (bI_ne.mp hc69); omega)) hM

end XE5
