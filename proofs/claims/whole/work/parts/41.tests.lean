section XR9
def mvB (c : mCf) (node : Nat) : Nat := if node < c.m then node else node - 1
def mvV (c : mCf) (node : Nat) : Int := valP c 2 (mvB c node) (if node < c.m then 0 else 4) 0 0 (9 * c.m)
def spMove (z : mT) (node a b q : Int) : Int64 := if 0 ≤ node ∧ node ≤ (z.1.m : Int) ∧ -1000 ≤ a ∧ a ≤ 1000 ∧ 1 ≤ b ∧ b ≤ 1000 ∧ -1 ≤ q ∧ looseB z.1 = false then
    tellv q (redP (mvV z.1 node.toNat * a) (solD z.1 * (overP z.1 2 (mvB z.1 node.toNat) : Nat) * b)) (redQ (mvV z.1 node.toNat * a) (solD z.1 * (overP z.1 2 (mvB z.1 node.toNat) : Nat) * b))
  else iL (refP q)
theorem B9_small {v b : Int} (hv : v.natAbs < B9 ^ 27) (hb : b.natAbs < 4000000000) {k : Nat} (hk : 29 ≤ k) : (v * b).natAbs < B9 ^ k := by
  refine Nat.lt_of_lt_of_le ?_ (B9_mono hk)
  rw [Int.natAbs_mul, show (29 : Nat) = 27 + 2 from rfl, Nat.pow_add]
  exact Nat.mul_lt_mul_of_lt_of_le hv (Nat.le_of_lt (Nat.lt_trans hb (by decide))) (Nat.pow_pos (by decide))
set_option maxRecDepth 100000 in
set_option maxHeartbeats 4000000 in
theorem c_move (G : xG) (l : Launch) (o : Nat) (as : Nat → Nat) (M0 : xM) (N S : Nat) (d : Nat) (σ : mS) (z : mT) (hR : RR σ z) (hok : slvOk z.1) (node a b q : Int) (hn1 : -2147483648 ≤ node) (hn2 : node < 2147483648) (ha1 : -9223372036854775808 ≤ a) (ha2 : a < 9223372036854775808) (hb1 : -9223372036854775808 ≤ b) (hb2 : b < 9223372036854775808) (hq1 : -2147483648 ≤ q) (hq2 : q < 2147483648) : mC G l o as M0 N S YX9_move (d + 6) [.int (iI node), .long (iL a), .long (iL b), .int (iI q)] σ (fun x σ' => x = some (.long (spMove z node a b q)) ∧ RR σ' z) := by
  refine mC.of (ls := [(0, .ref o), (1, .int (iI node)), (2, .long (iL a)), (4, .long (iL b)), (6, .int (iI q))]) (by decide) (Nat.le_of_ble_eq_true rfl) rfl fun M hM => ?_
  refine x_aload_n (q := 1) dX9_move_0 rfl rfl ?_
  refine xn_iconst (q := 2) 0 dX9_move_1 rfl (by decide) ?_
  refine m_putG (q := 5) hM 0 fwX9_97 (by decide) rfl rfl rfl dX9_move_2 rfl rfl rfl (fun M σ2 a2 e2 b2 hM => ?_)
  refine x_aload_n (q := 6) dX9_move_5 rfl rfl ?_
  refine m_call (q := 9) (As := []) hM imX9_solveAll ivX9_solveAll ilX9_solveAll mwX9_252 xciX9 dX9_move_6 rfl rfl rfl (Nat.le_of_ble_eq_true rfl) ?_
  refine (c_solveR G l o as M0 N S d σ2 z (hR.code a2 b2) hok).mono (fun x9 σ9 hp => ?_)
  obtain ⟨rfl, z9, r9⟩ := hp
  intro M hM
  show xX G l _ (d + 6) _ _ _ _ M N S
  have hm3 := r9.1.1.2.1
  refine x_iload_n (q := 10) dX9_move_9 rfl rfl ?_
  refine xi_if_lt (q := 13) 66 dX9_move_10 (by decide) rfl rfl (by omega) (by omega) (fun hc10 => ?_) (fun hc10 => ?_)
  · refine x_iload (q := 68) dX9_move_66 rfl rfl ?_
    refine x_callS (q := 71) (As := [_]) imX9_refused isX9_refused mwX9_317 dX9_move_68 rfl rfl rfl (Nat.le_of_ble_eq_true rfl) ?_
    refine c_refused G l _ M N S q hq1 hq2 _ ?_
    show xX G l _ (d + 6) _ _ _ _ M N S
    exact x_lret rfl dX9_move_71 (m_ret hM ⟨by rw [show spMove z node a b q = iL (refP q) from if_neg (fun h => by omega)], r9.rr⟩)
  · refine x_iload_n (q := 14) dX9_move_13 rfl rfl ?_
    refine x_aload_n (q := 15) dX9_move_14 rfl rfl ?_
    refine m_get (q := 18) hM 3 fwX9_93 (by decide) dX9_move_15 rfl rfl ?_
    rw [r9.1.2.1]
    refine xi_icmp_gt (q := 21) 66 dX9_move_18 (by decide) rfl rfl (nI_i _) (by omega) (by omega) (by omega) (by omega) (fun hc18 => ?_) (fun hc18 => ?_)
    · refine x_iload (q := 68) dX9_move_66 rfl rfl ?_
      refine x_callS (q := 71) (As := [_]) imX9_refused isX9_refused mwX9_317 dX9_move_68 rfl rfl rfl (Nat.le_of_ble_eq_true rfl) ?_
      refine c_refused G l _ M N S q hq1 hq2 _ ?_
      show xX G l _ (d + 6) _ _ _ _ M N S
      exact x_lret rfl dX9_move_71 (m_ret hM ⟨by rw [show spMove z node a b q = iL (refP q) from if_neg (fun h => by omega)], r9.rr⟩)
    · refine x_lload_n (q := 22) dX9_move_21 rfl rfl ?_
      refine x_ldc2 (q := 25) (-1000) dX9_move_22 rfl cwX9_289 ?_
      refine x_topl (y := iL (-1000)) (by decide) ?_
      refine xi_lcmp_lt (q1 := 26) (q := 29) 66 dX9_move_25 rfl dX9_move_26 (by decide) rfl rfl rfl (by omega) (by omega) (by omega) (by omega) (fun hc25 => ?_) (fun hc25 => ?_)
      · refine x_iload (q := 68) dX9_move_66 rfl rfl ?_
        refine x_callS (q := 71) (As := [_]) imX9_refused isX9_refused mwX9_317 dX9_move_68 rfl rfl rfl (Nat.le_of_ble_eq_true rfl) ?_
        refine c_refused G l _ M N S q hq1 hq2 _ ?_
        show xX G l _ (d + 6) _ _ _ _ M N S
        exact x_lret rfl dX9_move_71 (m_ret hM ⟨by rw [show spMove z node a b q = iL (refP q) from if_neg (fun h => by omega)], r9.rr⟩)
      · refine x_lload_n (q := 30) dX9_move_29 rfl rfl ?_
        refine xn_ldc2 (q := 33) 1000 dX9_move_30 rfl cwX9_291 ?_
        refine xi_lcmp_gt (q1 := 34) (q := 37) 66 dX9_move_33 rfl dX9_move_34 (by decide) rfl rfl (lN_i' _) (by omega) (by omega) (by omega) (by omega) (fun hc33 => ?_) (fun hc33 => ?_)
        · refine x_iload (q := 68) dX9_move_66 rfl rfl ?_
          refine x_callS (q := 71) (As := [_]) imX9_refused isX9_refused mwX9_317 dX9_move_68 rfl rfl rfl (Nat.le_of_ble_eq_true rfl) ?_
          refine c_refused G l _ M N S q hq1 hq2 _ ?_
          show xX G l _ (d + 6) _ _ _ _ M N S
          exact x_lret rfl dX9_move_71 (m_ret hM ⟨by rw [show spMove z node a b q = iL (refP q) from if_neg (fun h => by omega)], r9.rr⟩)
        · refine x_lload (q := 39) dX9_move_37 rfl rfl ?_
          refine xn_lconst (q := 40) 1 dX9_move_39 rfl (by decide) ?_
          refine xi_lcmp_lt (q1 := 41) (q := 44) 66 dX9_move_40 rfl dX9_move_41 (by decide) rfl rfl (lN_i' _) (by omega) (by omega) (by omega) (by omega) (fun hc40 => ?_) (fun hc40 => ?_)
          · refine x_iload (q := 68) dX9_move_66 rfl rfl ?_
            refine x_callS (q := 71) (As := [_]) imX9_refused isX9_refused mwX9_317 dX9_move_68 rfl rfl rfl (Nat.le_of_ble_eq_true rfl) ?_
            refine c_refused G l _ M N S q hq1 hq2 _ ?_
            show xX G l _ (d + 6) _ _ _ _ M N S
            exact x_lret rfl dX9_move_71 (m_ret hM ⟨by rw [show spMove z node a b q = iL (refP q) from if_neg (fun h => by omega)], r9.rr⟩)
          · refine x_lload (q := 46) dX9_move_44 rfl rfl ?_
            refine xn_ldc2 (q := 49) 1000 dX9_move_46 rfl cwX9_291 ?_
            refine xi_lcmp_gt (q1 := 50) (q := 53) 66 dX9_move_49 rfl dX9_move_50 (by decide) rfl rfl (lN_i' _) (by omega) (by omega) (by omega) (by omega) (fun hc49 => ?_) (fun hc49 => ?_)
            · refine x_iload (q := 68) dX9_move_66 rfl rfl ?_
              refine x_callS (q := 71) (As := [_]) imX9_refused isX9_refused mwX9_317 dX9_move_68 rfl rfl rfl (Nat.le_of_ble_eq_true rfl) ?_
              refine c_refused G l _ M N S q hq1 hq2 _ ?_
              show xX G l _ (d + 6) _ _ _ _ M N S
              exact x_lret rfl dX9_move_71 (m_ret hM ⟨by rw [show spMove z node a b q = iL (refP q) from if_neg (fun h => by omega)], r9.rr⟩)
            · refine x_iload (q := 55) dX9_move_53 rfl rfl ?_
              refine x_iconst (q := 56) (iI (-1)) dX9_move_55 rfl (by decide) ?_
              refine xi_icmp_lt (q := 59) 66 dX9_move_56 (by decide) rfl rfl rfl (by omega) (by omega) (by omega) (by omega) (fun hc56 => ?_) (fun hc56 => ?_)
              · refine x_iload (q := 68) dX9_move_66 rfl rfl ?_
                refine x_callS (q := 71) (As := [_]) imX9_refused isX9_refused mwX9_317 dX9_move_68 rfl rfl rfl (Nat.le_of_ble_eq_true rfl) ?_
                refine c_refused G l _ M N S q hq1 hq2 _ ?_
                show xX G l _ (d + 6) _ _ _ _ M N S
                exact x_lret rfl dX9_move_71 (m_ret hM ⟨by rw [show spMove z node a b q = iL (refP q) from if_neg (fun h => by omega)], r9.rr⟩)
              · refine x_aload_n (q := 60) dX9_move_59 rfl rfl ?_
                refine m_get (q := 63) hM 23 fwX9_212 (by decide) dX9_move_60 rfl rfl ?_
                rw [r9.2.2.1.1.1]
                refine x_if_eq (q := 66) 72 dX9_move_63 (by decide) rfl (fun hc63 => ?_) (fun hc63 => ?_)
                · have hlo : looseB z.1 = false := bI_eq.mp hc63
                  have hsv := r9.sv hlo
                  have hD := hsv.wD
                  have hD0 : solD z.1 ≠ 0 := gjS_ne (hok.2 hlo) _ (Nat.le_refl _)
                  have hm1 := hsv.1.1.1
                  have en : iI node = nI node.toNat := by rw [nI_i node.toNat]; exact congrArg iI (by omega)
                  rw [en]
                  rw [show spMove z node a b q = _ from if_pos (show 0 ≤ node ∧ node ≤ (z.1.m : Int) ∧ -1000 ≤ a ∧ a ≤ 1000 ∧ 1 ≤ b ∧ b ≤ 1000 ∧ -1 ≤ q ∧ looseB z.1 = false from ⟨by omega, by omega, by omega, by omega, by omega, by omega, by omega, hlo⟩)]
                  have hnm : node.toNat ≤ z.1.m := by omega
                  generalize node.toNat = nd at *
                  have hbm : mvB z.1 nd < z.1.m := by unfold mvB; split <;> omega
                  have hov := overP_le hsv.1.1 (w := 2) (m := mvB z.1 nd) (fun _ => by omega)
                  have fin : ∀ (M : xM) (x7 : Bool) (pl : Nat), pl = (if nd < z.1.m then 0 else 4) → mAt o as σ9 M0 M → xX G l YX9_move (d + 6) (mQ o as M0 N S (fun x σ' => x = some (.long (tellv q (redP (mvV z.1 nd * a) (solD z.1 * (overP z.1 2 (mvB z.1 nd) : Nat) * b)) (redQ (mvV z.1 nd * a) (solD z.1 * (overP z.1 2 (mvB z.1 nd) : Nat) * b)))) ∧ RR σ' z)) 115 [(0, .ref o), (1, .int (nI nd)), (2, .long (iL a)), (4, .long (iL b)), (6, .int (iI q)), (7, .int (bI x7)), (8, .int (nI (mvB z.1 nd)))] [.int (nI pl), .int (nI (mvB z.1 nd)), .int (nI 2), .ref o] M N S := by
                    intro M x7 pl hpl hM
                    have hpl4 : pl ≤ 4 := by rw [hpl]; split <;> omega
                    refine xn_iconst (q := 116) 0 dX9_move_115 rfl (by decide) ?_
                    refine xn_iconst (q := 117) 0 dX9_move_116 rfl (by decide) ?_
                    refine x_aload_n (q := 118) dX9_move_117 rfl rfl ?_
                    refine m_call (q := 121) (As := []) hM imX9_settling ivX9_settling ilX9_settling mwX9_172 xciX9 dX9_move_118 rfl rfl rfl (Nat.le_of_ble_eq_true rfl) ?_
                    refine (c_settling G l o as M0 N S (d + 5) σ9 z.1.m hsv.1.2.1).mono (fun x9 σ9' hp => ?_)
                    obtain ⟨rfl, e9⟩ := hp
                    intro M hM
                    rw [e9] at hM; clear e9 σ9'
                    show xX G l _ (d + 6) _ _ _ _ M N S
                    refine m_call (q := 124) (As := [_, _, _, _, _, _]) hM imX9_value ivX9_value ilX9_value mwX9_304 xciX9 dX9_move_121 rfl rfl rfl (Nat.le_of_ble_eq_true rfl) ?_
                    refine (c_value G l o as M0 N S (d + 1) σ9 z.1 hsv 2 (mvB z.1 nd) pl 0 0 (9 * z.1.m) (by decide) (.inl hbm) hpl4 (by omega) (by decide) (by have := hsv.1.1.2.1; omega)).mono (fun x9 σ5 hp => ?_)
                    obtain ⟨rfl, k5, r5, b5⟩ := hp
                    intro M hM
                    show xX G l _ (d + 6) _ _ _ _ M N S
                    rw [show valP z.1 2 (mvB z.1 nd) pl 0 0 (9 * z.1.m) = mvV z.1 nd by rw [hpl]; rfl] at r5 b5
                    have kA : keeps [0, 1, 2, 3] σ9 σ5 := k5.mono (by intro r hr; simp at hr ⊢; omega)
                    refine x_aload_n (q := 125) dX9_move_124 rfl rfl ?_
                    refine xn_bipush (q := 127) 10 dX9_move_125 rfl (by decide) ?_
                    refine xn_iconst (q := 128) 1 dX9_move_127 rfl (by decide) ?_
                    refine m_call (q := 131) (As := [_, _]) hM imX9_copy ivX9_copy ilX9_copy mwX9_107 xciX9 dX9_move_128 rfl rfl rfl (Nat.le_of_ble_eq_true rfl) ?_
                    refine (c_copy G l o as M0 N S (d + 5) 10 1 (by decide) (by decide) (by decide) σ5 _ (k5.reg (by decide) hsv.2.2)).mono (fun x9 σ6 hp => ?_)
                    obtain ⟨rfl, k6, r6⟩ := hp
                    intro M hM
                    show xX G l _ (d + 6) _ _ _ _ M N S
                    have kB : keeps [0, 1, 2, 3] σ5 σ6 := k6.s (by simp)
                    have r06 := k6.reg (by decide) r5
                    have hsv6 := hsv.keeps (kA.trans kB) (by decide)
                    refine x_aload_n (q := 132) dX9_move_131 rfl rfl ?_
                    refine xn_iconst (q := 133) 1 dX9_move_132 rfl (by decide) ?_
                    refine x_aload_n (q := 134) dX9_move_133 rfl rfl ?_
                    refine xn_iconst (q := 135) 2 dX9_move_134 rfl (by decide) ?_
                    refine x_iload (q := 137) dX9_move_135 rfl rfl ?_
                    refine m_call (q := 140) (As := [_, _]) hM imX9_over ivX9_over ilX9_over mwX9_324 xciX9 dX9_move_137 rfl rfl rfl (Nat.le_of_ble_eq_true rfl) ?_
                    refine (c_over G l o as M0 N S (d + 5) σ6 z.1 hsv6.1 2 _ (by decide) (fun e => by have := hsv.1.1.2.1; omega)).mono (fun x9 σ9' hp => ?_)
                    obtain ⟨rfl, e9⟩ := hp
                    intro M hM
                    rw [e9] at hM; clear e9 σ9'
                    show xX G l _ (d + 6) _ _ _ _ M N S
                    refine m_call (q := 143) (As := [_, _]) hM imX9_multiplySmall ivX9_multiplySmall ilX9_multiplySmall mwX9_129 xciX9 dX9_move_140 rfl rfl rfl (Nat.le_of_ble_eq_true rfl) ?_
                    have hwn := BW_mul (b := ((overP z.1 2 (mvB z.1 nd) : Nat) : Int)) hD (by omega)
                    have hwn2 := BW_le (j := 1) (by decide) (by rw [Nat.one_mul]; exact hwn)
                    refine (c_multiplySmall G l o as M0 N S (d + 4) 1 (by decide) _ _ (lN_t (by omega)) (by omega) σ6 _ r6 (Nat.lt_of_lt_of_le hD (B9_mono (by decide)))).mono (fun x9 σ7 hp => ?_)
                    obtain ⟨rfl, k7, r7⟩ := hp
                    intro M hM
                    show xX G l _ (d + 6) _ _ _ _ M N S
                    have r07 := k7.reg (by decide) r06
                    have kC : keeps [0, 1, 2, 3] σ6 σ7 := k7.s (by simp)
                    refine x_aload_n (q := 144) dX9_move_143 rfl rfl ?_
                    refine xn_iconst (q := 145) 0 dX9_move_144 rfl (by decide) ?_
                    refine x_lload_n (q := 146) dX9_move_145 rfl rfl ?_
                    refine m_call (q := 149) (As := [_, _]) hM imX9_multiplySmall ivX9_multiplySmall ilX9_multiplySmall mwX9_129 xciX9 dX9_move_146 rfl rfl rfl (Nat.le_of_ble_eq_true rfl) ?_
                    have hv5 := BW_le (j := 6) (by decide) b5
                    refine (c_multiplySmall G l o as M0 N S (d + 4) 0 (by decide) _ a (iL_t (by omega) (by omega)) (by omega) σ7 _ r07 (B9_27_399 hv5 (by decide))).mono (fun x9 σ10 hp => ?_)
                    obtain ⟨rfl, k10, r10⟩ := hp
                    intro M hM
                    show xX G l _ (d + 6) _ _ _ _ M N S
                    have r71 := k10.reg (by decide) r7
                    refine x_aload_n (q := 150) dX9_move_149 rfl rfl ?_
                    refine xn_iconst (q := 151) 1 dX9_move_150 rfl (by decide) ?_
                    refine x_lload (q := 153) dX9_move_151 rfl rfl ?_
                    refine m_call (q := 156) (As := [_, _]) hM imX9_multiplySmall ivX9_multiplySmall ilX9_multiplySmall mwX9_129 xciX9 dX9_move_153 rfl rfl rfl (Nat.le_of_ble_eq_true rfl) ?_
                    refine (c_multiplySmall G l o as M0 N S (d + 4) 1 (by decide) _ b (iL_t (by omega) (by omega)) (by omega) σ10 _ r71 (B9_27_399 hwn2 (by decide))).mono (fun x9 σ11 hp => ?_)
                    obtain ⟨rfl, k11, r11⟩ := hp
                    intro M hM
                    show xX G l _ (d + 6) _ _ _ _ M N S
                    have r100 := k11.reg (by decide) r10
                    have kE : keeps [0, 1, 2, 3] σ7 σ11 := keeps.trans (k10.s (by simp)) (k11.s (by simp))
                    refine x_aload_n (q := 157) dX9_move_156 rfl rfl ?_
                    refine m_call (q := 160) (As := []) hM imX9_reduce ivX9_reduce ilX9_reduce mwX9_327 xciX9 dX9_move_157 rfl rfl rfl (Nat.le_of_ble_eq_true rfl) ?_
                    have hne : solD z.1 * (overP z.1 2 (mvB z.1 nd) : Nat) * b ≠ 0 := Int.mul_ne_zero (Int.mul_ne_zero hD0 (by omega)) (by omega)
                    have hs1 : (mvV z.1 nd * a).natAbs < B9 ^ 397 := B9_small hv5 (by omega) (by decide)
                    have hs2 : (solD z.1 * (overP z.1 2 (mvB z.1 nd) : Nat) * b).natAbs < B9 ^ 397 := B9_small hwn2 (by omega) (by decide)
                    refine (c_reduce G l o as M0 N S (d + 2) σ11 _ _ r100 r11 hne hs1 hs2).mono (fun x9 σ8 hp => ?_)
                    obtain ⟨rfl, k8, r80, r81⟩ := hp
                    intro M hM
                    show xX G l _ (d + 6) _ _ _ _ M N S
                    refine x_aload_n (q := 161) dX9_move_160 rfl rfl ?_
                    refine x_iload (q := 163) dX9_move_161 rfl rfl ?_
                    refine m_call (q := 166) (As := [_]) hM imX9_tell ivX9_tell ilX9_tell mwX9_330 xciX9 dX9_move_163 rfl rfl rfl (Nat.le_of_ble_eq_true rfl) ?_
                    refine (c_tell G l o as M0 N S (d + 5) σ8 q (by omega) (by omega) _ _ r80 r81).mono (fun x9 σ9' hp => ?_)
                    obtain ⟨rfl, e9⟩ := hp
                    intro M hM
                    rw [e9] at hM; clear e9 σ9'
                    show xX G l _ (d + 6) _ _ _ _ M N S
                    exact x_lret rfl dX9_move_166 (m_ret hM ⟨rfl, ((r9.keeps (kA.trans (kB.trans (kC.trans kE))) (by decide)).keeps k8 (by decide)).rr⟩)
                  refine x_iload_n (q := 73) dX9_move_72 rfl rfl ?_
                  refine x_aload_n (q := 74) dX9_move_73 rfl rfl ?_
                  refine m_get (q := 77) hM 3 fwX9_93 (by decide) dX9_move_74 rfl rfl ?_
                  rw [show σ9.1 3 = nI z.1.m from hsv.1.2.1]
                  refine xn_icmp_ge (q := 80) 84 dX9_move_77 (by decide) rfl (by omega) (by omega) (fun hc77 => ?_) (fun hc77 => ?_)
                  · refine xn_iconst (q := 85) 0 dX9_move_84 rfl (by decide) ?_
                    refine x_istore (q := 87) (ls' := [(0, _), (1, _), (2, _), (4, _), (6, _), (7, _)]) [1, 2, 3, 4, 5, 0] dX9_move_85 rfl (by decide) rfl ?_
                    refine x_iload (q := 89) dX9_move_87 rfl rfl ?_
                    refine xn_if_eq (q := 92) 96 dX9_move_89 (by decide) rfl (by omega) (fun hc89 => ?_) (fun hc89 => absurd hc89 (by decide))
                    refine x_iload_n (q := 97) dX9_move_96 rfl rfl ?_
                    refine xn_iconst (q := 98) 1 dX9_move_97 rfl (by decide) ?_
                    refine xn_isub (q := 99) dX9_move_98 rfl (by omega) ?_
                    refine x_istore (q := 101) (ls' := [(0, _), (1, _), (2, _), (4, _), (6, _), (7, _), (8, _)]) [1, 2, 3, 4, 5, 6, 0] dX9_move_99 rfl (by decide) rfl ?_
                    refine x_aload_n (q := 102) dX9_move_101 rfl rfl ?_
                    refine xn_iconst (q := 103) 2 dX9_move_102 rfl (by decide) ?_
                    refine x_iload (q := 105) dX9_move_103 rfl rfl ?_
                    refine x_iload (q := 107) dX9_move_105 rfl rfl ?_
                    refine xn_if_eq (q := 110) 114 dX9_move_107 (by decide) rfl (by omega) (fun hc107 => ?_) (fun hc107 => absurd hc107 (by decide))
                    refine xn_iconst (q := 115) 4 dX9_move_114 rfl (by decide) ?_
                    have g := fin M false 4 (by rw [if_neg (by omega)]) hM
                    rw [show mvB z.1 nd = nd - 1 from if_neg (by omega)] at g ⊢; exact g
                  · refine xn_iconst (q := 81) 1 dX9_move_80 rfl (by decide) ?_
                    refine x_goto 85 dX9_move_81 (by decide) ?_
                    refine x_istore (q := 87) (ls' := [(0, _), (1, _), (2, _), (4, _), (6, _), (7, _)]) [1, 2, 3, 4, 5, 0] dX9_move_85 rfl (by decide) rfl ?_
                    refine x_iload (q := 89) dX9_move_87 rfl rfl ?_
                    refine xn_if_eq (q := 92) 96 dX9_move_89 (by decide) rfl (by omega) (fun hc89 => absurd hc89 (by decide)) (fun hc89 => ?_)
                    refine x_iload_n (q := 93) dX9_move_92 rfl rfl ?_
                    refine x_goto 99 dX9_move_93 (by decide) ?_
                    refine x_istore (q := 101) (ls' := [(0, _), (1, _), (2, _), (4, _), (6, _), (7, _), (8, _)]) [1, 2, 3, 4, 5, 6, 0] dX9_move_99 rfl (by decide) rfl ?_
                    refine x_aload_n (q := 102) dX9_move_101 rfl rfl ?_
                    refine xn_iconst (q := 103) 2 dX9_move_102 rfl (by decide) ?_
                    refine x_iload (q := 105) dX9_move_103 rfl rfl ?_
                    refine x_iload (q := 107) dX9_move_105 rfl rfl ?_
                    refine xn_if_eq (q := 110) 114 dX9_move_107 (by decide) rfl (by omega) (fun hc107 => absurd hc107 (by decide)) (fun hc107 => ?_)
                    refine xn_iconst (q := 111) 0 dX9_move_110 rfl (by decide) ?_
                    refine x_goto 115 dX9_move_111 (by decide) ?_
                    have g := fin M true 0 (by rw [if_pos (by omega)]) hM
                    rw [show mvB z.1 nd = nd from if_pos (by omega)] at g ⊢; exact g
                · refine x_iload (q := 68) dX9_move_66 rfl rfl ?_
                  refine x_callS (q := 71) (As := [_]) imX9_refused isX9_refused mwX9_317 dX9_move_68 rfl rfl rfl (Nat.le_of_ble_eq_true rfl) ?_
                  refine c_refused G l _ M N S q hq1 hq2 _ ?_
                  show xX G l _ (d + 6) _ _ _ _ M N S
                  exact x_lret rfl dX9_move_71 (m_ret hM ⟨by rw [show spMove z node a b q = iL (refP q) from if_neg (fun h => by rw [bI_ne.mp hc63] at h; exact absurd h.2.2.2.2.2.2.2 (by decide))], r9.rr⟩)
theorem sg_abs {u v : Int} (h : sg u = sg v) (ha : u.natAbs = v.natAbs) : u = v := by
  rcases Int.lt_trichotomy u 0 with e | e | e
  · rcases Int.lt_trichotomy v 0 with f | f | f
    · omega
    · omega
    · rw [sg_neg e, sg_pos f] at h; exact absurd h (by decide)
  · omega
  · rcases Int.lt_trichotomy v 0 with f | f | f
    · rw [sg_pos e, sg_neg f] at h; exact absurd h (by decide)
    · omega
    · omega
/-- exchanged places, one after the other -/
def tuE (c : mCf) (q : Nat × Nat × Nat) (k : Nat) : Bool := decide (valP c 2 (k / 5) (k % 5) q.2.1 q.2.2 (4 * c.m + 5 * q.2.1 + q.2.2) * (c.E q.2.1 : Int) = vOf c q (k / 5) (k % 5) * (c.E (k / 5) : Int))
def tuA (c : mCf) (q : Nat × Nat × Nat) : Nat → Nat → Bool
  | 0, _ => true
  | u + 1, k => tuE c q k && tuA c q u (k + 1)
def spTurned (z : mT) (r : Int) : Bool := isRw z r && (decide ((rowAt z.2.2 r.toNat).1 = 2) && tuA z.1 (rowAt z.2.2 r.toNat) (5 * z.1.m) 0)
set_option maxRecDepth 100000 in
set_option maxHeartbeats 4000000 in
theorem c_turned_l (G : xG) (l : Launch) (o : Nat) (as : Nat → Nat) (M0 : xM) (N S : Nat) (d : Nat) (σ : mS) (c : mCf) (hs : Sv σ c) (rs : List (Nat × Nat × Nat)) (hr : Rws σ c rs) (r : Nat) (hrl : r < rs.length) (h2 : (rowAt rs r).1 = 2) (Q : xPost) :
    ∀ (u k : Nat), k + u = 5 * c.m → ∀ σ' M sm, keeps [0, 2, 3, 5] σ σ' → mAt o as σ' M0 M → (∀ σ' M (k' : Nat), keeps [0, 2, 3, 5] σ σ' → mAt o as σ' M0 M → xX G l YX9_turned (d + 6) Q 166 [(0, .ref o), (1, .int (nI r)), (2, .int (bI (sm && tuA c (rowAt rs r) u k))), (3, .int (nI k'))] [] M N S) → xX G l YX9_turned (d + 6) Q 29 [(0, .ref o), (1, .int (nI r)), (2, .int (bI sm)), (3, .int (nI k))] [] M N S := by
  obtain ⟨r8, h10, hrw⟩ := id hr
  obtain ⟨h11, h12, h13, hokr⟩ := hrw r hrl
  have hmb : (rowAt rs r).2.1 < c.m ∧ (rowAt rs r).2.2 ≤ 4 := by unfold okRow rowAt at *; omega
  have hm3 := hs.1.1.2.1
  intro u
  induction u with
  | zero =>
    intro k hk σ' M sm hkp hM hx
    have hx := hx σ' M k hkp hM
    unfold tuA at hx
    rw [Bool.and_true] at hx
    have h3 : σ'.1 3 = nI c.m := by rw [hkp.1]; exact hs.1.2.1
    refine x_iload_n (q := 30) dX9_turned_29 rfl rfl ?_
    refine xn_iconst (q := 31) 5 dX9_turned_30 rfl (by decide) ?_
    refine x_aload_n (q := 32) dX9_turned_31 rfl rfl ?_
    refine m_get (q := 35) hM 3 fwX9_93 (by decide) dX9_turned_32 rfl rfl ?_
    rw [h3]
    refine xn_imul (q := 36) dX9_turned_35 rfl ?_
    refine xn_icmp_ge (q := 39) 166 dX9_turned_36 (by decide) rfl (by omega) (by omega) (fun hc36 => ?_) (fun hc36 => absurd hc36 (by omega))
    exact hx
  | succ u ih =>
    intro k hk σ' M sm hkp hM hx
    have h3 : σ'.1 3 = nI c.m := by rw [hkp.1]; exact hs.1.2.1
    have hsv := hs.keeps hkp (by decide)
    have hr' : Rws σ' c rs := hr.on hkp.onl (by decide) (by decide) (by decide) (by decide)
    have hEk := hs.1.1.2.2.2.1 (k / 5) (by omega)
    have hEm := hs.1.1.2.2.2.1 (rowAt rs r).2.1 (by omega)
    unfold tuA at hx
    refine x_iload_n (q := 30) dX9_turned_29 rfl rfl ?_
    refine xn_iconst (q := 31) 5 dX9_turned_30 rfl (by decide) ?_
    refine x_aload_n (q := 32) dX9_turned_31 rfl rfl ?_
    refine m_get (q := 35) hM 3 fwX9_93 (by decide) dX9_turned_32 rfl rfl ?_
    rw [h3]
    refine xn_imul (q := 36) dX9_turned_35 rfl ?_
    refine xn_icmp_ge (q := 39) 166 dX9_turned_36 (by decide) rfl (by omega) (by omega) (fun hc36 => absurd hc36 (by omega)) (fun hc36 => ?_)
    refine x_iload_n (q := 40) dX9_turned_39 rfl rfl ?_
    refine x_if_eq (q := 43) 166 dX9_turned_40 (by decide) rfl (fun hc40 => ?_) (fun hc40 => ?_)
    · have hx := hx σ' M k hkp hM
      rw [bI_eq.mp hc40, Bool.false_and] at hx; rw [bI_eq.mp hc40]; exact hx
    · refine x_aload_n (q := 44) dX9_turned_43 rfl rfl ?_
      refine x_iload_n (q := 45) dX9_turned_44 rfl rfl ?_
      refine x_iload_n (q := 46) dX9_turned_45 rfl rfl ?_
      refine xn_iconst (q := 47) 5 dX9_turned_46 rfl (by decide) ?_
      refine xn_idiv (q := 48) dX9_turned_47 rfl (by omega) (by omega) (by omega) ?_
      refine x_iload_n (q := 49) dX9_turned_48 rfl rfl ?_
      refine xn_iconst (q := 50) 5 dX9_turned_49 rfl (by decide) ?_
      refine xn_irem (q := 51) dX9_turned_50 rfl (by omega) (by omega) (by omega) ?_
      refine m_call (q := 54) (As := [_, _, _]) hM imX9_valueOf ivX9_valueOf ilX9_valueOf mwX9_321 xciX9 dX9_turned_51 rfl rfl rfl (Nat.le_of_ble_eq_true rfl) ?_
      refine (c_valueOf G l o as M0 N S d σ' c hsv rs hr' r (k / 5) (k % 5) hrl (by omega) (by omega)).mono (fun x9 σ5 hp => ?_)
      obtain ⟨rfl, k5, r5, b5⟩ := hp
      intro M hM
      show xX G l _ (d + 6) _ _ _ _ M N S
      have kA : keeps [0, 2, 3, 5] σ' σ5 := k5.mono (by intro r hr; simp at hr ⊢; omega)
      refine x_aload_n (q := 55) dX9_turned_54 rfl rfl ?_
      refine xn_iconst (q := 56) 0 dX9_turned_55 rfl (by decide) ?_
      refine x_aload_n (q := 57) dX9_turned_56 rfl rfl ?_
      refine m_get (q := 60) hM 5 fwX9_16 (by decide) dX9_turned_57 rfl rfl ?_
      refine x_iload_n (q := 61) dX9_turned_60 rfl rfl ?_
      refine xn_iconst (q := 62) 5 dX9_turned_61 rfl (by decide) ?_
      refine xn_idiv (q := 63) dX9_turned_62 rfl (by omega) (by omega) (by omega) ?_
      refine m_iald (q := 64) hM (n := 3) (by decide) dX9_turned_63 rfl (by omega) ?_
      rw [show σ5.2.1 5 (k / 5) = nI (c.E (k / 5)) by rw [k5.2.2.1 5 (by decide) (by decide) (by decide)]; exact hsv.1.2.2.2.1 _ (by omega)]
      refine xn_i2l (q := 65) dX9_turned_64 rfl (by omega) ?_
      refine m_call (q := 68) (As := [_, _]) hM imX9_multiplySmall ivX9_multiplySmall ilX9_multiplySmall mwX9_129 xciX9 dX9_turned_65 rfl rfl rfl (Nat.le_of_ble_eq_true rfl) ?_
      refine (c_multiplySmall G l o as M0 N S (d + 4) 0 (by decide) _ _ (lN_t (by omega)) (by omega) σ5 _ r5 (B9_27_399 (BW_le (j := 6) (by decide) b5) (by decide))).mono (fun x9 σ6 hp => ?_)
      obtain ⟨rfl, k6, r6⟩ := hp
      intro M hM
      show xX G l _ (d + 6) _ _ _ _ M N S
      have kB : keeps [0, 2, 3, 5] σ5 σ6 := k6.s (by simp)
      refine x_aload_n (q := 69) dX9_turned_68 rfl rfl ?_
      refine xn_iconst (q := 70) 0 dX9_turned_69 rfl (by decide) ?_
      refine xn_iconst (q := 71) 5 dX9_turned_70 rfl (by decide) ?_
      refine m_call (q := 74) (As := [_, _]) hM imX9_copy ivX9_copy ilX9_copy mwX9_107 xciX9 dX9_turned_71 rfl rfl rfl (Nat.le_of_ble_eq_true rfl) ?_
      refine (c_copy G l o as M0 N S (d + 5) 0 5 (by decide) (by decide) (by decide) σ6 _ r6).mono (fun x9 σ7 hp => ?_)
      obtain ⟨rfl, k7, r7⟩ := hp
      intro M hM
      show xX G l _ (d + 6) _ _ _ _ M N S
      have kC : keeps [0, 2, 3, 5] σ6 σ7 := k7.s (by simp)
      have hkp7 := hkp.trans (kA.trans (kB.trans kC))
      have hsv7 := hs.keeps hkp7 (by decide)
      refine x_aload_n (q := 75) dX9_turned_74 rfl rfl ?_
      refine xn_iconst (q := 76) 2 dX9_turned_75 rfl (by decide) ?_
      refine x_iload_n (q := 77) dX9_turned_76 rfl rfl ?_
      refine xn_iconst (q := 78) 5 dX9_turned_77 rfl (by decide) ?_
      refine xn_idiv (q := 79) dX9_turned_78 rfl (by omega) (by omega) (by omega) ?_
      refine x_iload_n (q := 80) dX9_turned_79 rfl rfl ?_
      refine xn_iconst (q := 81) 5 dX9_turned_80 rfl (by decide) ?_
      refine xn_irem (q := 82) dX9_turned_81 rfl (by omega) (by omega) (by omega) ?_
      refine x_aload_n (q := 83) dX9_turned_82 rfl rfl ?_
      refine m_get (q := 86) hM 12 fwX9_35 (by decide) dX9_turned_83 rfl rfl ?_
      refine x_iload_n (q := 87) dX9_turned_86 rfl rfl ?_
      refine m_iald (q := 88) hM (n := 8) (by decide) dX9_turned_87 rfl (by omega) ?_
      rw [show σ7.2.1 12 r = nI (rowAt rs r).2.1 by rw [hkp7.2.2.1 12 (by decide) (by decide) (by decide)]; exact h12]
      refine x_aload_n (q := 89) dX9_turned_88 rfl rfl ?_
      refine m_get (q := 92) hM 13 fwX9_38 (by decide) dX9_turned_89 rfl rfl ?_
      refine x_iload_n (q := 93) dX9_turned_92 rfl rfl ?_
      refine m_iald (q := 94) hM (n := 8) (by decide) dX9_turned_93 rfl (by omega) ?_
      rw [show σ7.2.1 13 r = nI (rowAt rs r).2.2 by rw [hkp7.2.2.1 13 (by decide) (by decide) (by decide)]; exact h13]
      refine x_aload_n (q := 95) dX9_turned_94 rfl rfl ?_
      refine x_aload_n (q := 96) dX9_turned_95 rfl rfl ?_
      refine m_get (q := 99) hM 12 fwX9_35 (by decide) dX9_turned_96 rfl rfl ?_
      refine x_iload_n (q := 100) dX9_turned_99 rfl rfl ?_
      refine m_iald (q := 101) hM (n := 8) (by decide) dX9_turned_100 rfl (by omega) ?_
      rw [show σ7.2.1 12 r = nI (rowAt rs r).2.1 by rw [hkp7.2.2.1 12 (by decide) (by decide) (by decide)]; exact h12]
      refine x_aload_n (q := 102) dX9_turned_101 rfl rfl ?_
      refine m_get (q := 105) hM 13 fwX9_38 (by decide) dX9_turned_102 rfl rfl ?_
      refine x_iload_n (q := 106) dX9_turned_105 rfl rfl ?_
      refine m_iald (q := 107) hM (n := 8) (by decide) dX9_turned_106 rfl (by omega) ?_
      rw [show σ7.2.1 13 r = nI (rowAt rs r).2.2 by rw [hkp7.2.2.1 13 (by decide) (by decide) (by decide)]; exact h13]
      refine m_call (q := 110) (As := [_, _]) hM imX9_column ivX9_column ilX9_column mwX9_144 xciX9 dX9_turned_107 rfl rfl rfl (Nat.le_of_ble_eq_true rfl) ?_
      refine (c_column G l o as M0 N S (d + 5) σ7 c.m _ _ hsv7.1.2.1).mono (fun x9 σ9' hp => ?_)
      obtain ⟨rfl, e9⟩ := hp
      intro M hM
      rw [e9] at hM; clear e9 σ9'
      show xX G l _ (d + 6) _ _ _ _ M N S
      refine m_call (q := 113) (As := [_, _, _, _, _, _]) hM imX9_value ivX9_value ilX9_value mwX9_304 xciX9 dX9_turned_110 rfl rfl rfl (Nat.le_of_ble_eq_true rfl) ?_
      refine (c_value G l o as M0 N S (d + 1) σ7 c hsv7 2 (k / 5) (k % 5) _ _ _ (by decide) (.inl (by omega)) (by omega) hmb.1 hmb.2 (by omega)).mono (fun x9 σ8 hp => ?_)
      obtain ⟨rfl, k8, r8, b8⟩ := hp
      intro M hM
      show xX G l _ (d + 6) _ _ _ _ M N S
      have kD : keeps [0, 2, 3, 5] σ7 σ8 := k8.mono (by intro r hr; simp at hr ⊢; omega)
      have r85 := k8.reg (by decide) r7
      have hkp8 := hkp7.trans kD
      refine x_aload_n (q := 114) dX9_turned_113 rfl rfl ?_
      refine xn_iconst (q := 115) 0 dX9_turned_114 rfl (by decide) ?_
      refine x_aload_n (q := 116) dX9_turned_115 rfl rfl ?_
      refine m_get (q := 119) hM 5 fwX9_16 (by decide) dX9_turned_116 rfl rfl ?_
      refine x_aload_n (q := 120) dX9_turned_119 rfl rfl ?_
      refine m_get (q := 123) hM 12 fwX9_35 (by decide) dX9_turned_120 rfl rfl ?_
      refine x_iload_n (q := 124) dX9_turned_123 rfl rfl ?_
      refine m_iald (q := 125) hM (n := 8) (by decide) dX9_turned_124 rfl (by omega) ?_
      rw [show σ8.2.1 12 r = nI (rowAt rs r).2.1 by rw [hkp8.2.2.1 12 (by decide) (by decide) (by decide)]; exact h12]
      refine m_iald (q := 126) hM (n := 3) (by decide) dX9_turned_125 rfl (by omega) ?_
      rw [show σ8.2.1 5 (rowAt rs r).2.1 = nI (c.E (rowAt rs r).2.1) by rw [hkp8.2.2.1 5 (by decide) (by decide) (by decide)]; exact hs.1.2.2.2.1 _ (by omega)]
      refine xn_i2l (q := 127) dX9_turned_126 rfl (by omega) ?_
      refine m_call (q := 130) (As := [_, _]) hM imX9_multiplySmall ivX9_multiplySmall ilX9_multiplySmall mwX9_129 xciX9 dX9_turned_127 rfl rfl rfl (Nat.le_of_ble_eq_true rfl) ?_
      refine (c_multiplySmall G l o as M0 N S (d + 4) 0 (by decide) _ _ (lN_t (by omega)) (by omega) σ8 _ r8 (B9_27_399 (BW_le (j := 6) (by decide) b8) (by decide))).mono (fun x9 σ9 hp => ?_)
      obtain ⟨rfl, k9, r9⟩ := hp
      intro M hM
      show xX G l _ (d + 6) _ _ _ _ M N S
      have kE : keeps [0, 2, 3, 5] σ8 σ9 := k9.s (by simp)
      have r95 := k9.reg (by decide) r85
      refine x_aload_n (q := 131) dX9_turned_130 rfl rfl ?_
      refine m_get (q := 134) hM 16 fwX9_47 (by decide) dX9_turned_131 rfl rfl ?_
      refine xn_iconst (q := 135) 0 dX9_turned_134 rfl (by decide) ?_
      refine m_iald (q := 136) hM (n := 16) (by decide) dX9_turned_135 rfl (by omega) ?_
      rw [show σ9.2.1 16 0 = sg _ from r9.choose_spec.2.2.2.1]
      refine x_aload_n (q := 137) dX9_turned_136 rfl rfl ?_
      refine m_get (q := 140) hM 16 fwX9_47 (by decide) dX9_turned_137 rfl rfl ?_
      refine xn_iconst (q := 141) 5 dX9_turned_140 rfl (by decide) ?_
      refine m_iald (q := 142) hM (n := 16) (by decide) dX9_turned_141 rfl (by omega) ?_
      rw [show σ9.2.1 16 5 = sg _ from r95.choose_spec.2.2.2.1]
      refine x_icmp_ne (q := 145) 158 dX9_turned_142 (by decide) rfl (fun hc142 => ?_) (fun hc142 => ?_)
      · refine xn_iconst (q := 159) 0 dX9_turned_158 rfl (by decide) ?_
        refine x_istore_n (q := 160) (ls' := [(0, _), (1, _), (2, _), (3, _)]) [1, 2, 0, 3] dX9_turned_159 rfl (by decide) rfl ?_
        refine xn_iinc (q := 163) (ls' := [(0, _), (1, _), (2, _), (3, _)]) [1, 2, 3, 0] 1 dX9_turned_160 rfl rfl (by decide) (by decide) rfl ?_
        refine x_goto 29 dX9_turned_163 (by decide) ?_
        have hE0 : tuE c (rowAt rs r) k = false := decide_eq_false (fun e => hc142 (congrArg sg e))
        exact ih (k + 1) (by omega) σ9 M false (hkp.trans (kA.trans (kB.trans (kC.trans (kD.trans kE))))) hM (fun σ' M k' h1 h2 => by have hx := hx σ' M k' h1 h2; rw [hE0, bI_ne.mp hc40, Bool.true_and] at hx; exact hx)
      · refine x_aload_n (q := 146) dX9_turned_145 rfl rfl ?_
        refine xn_iconst (q := 147) 0 dX9_turned_146 rfl (by decide) ?_
        refine xn_iconst (q := 148) 5 dX9_turned_147 rfl (by decide) ?_
        refine m_call (q := 151) (As := [_, _]) hM imX9_compare ivX9_compare ilX9_compare mwX9_114 xciX9 dX9_turned_148 rfl rfl rfl (Nat.le_of_ble_eq_true rfl) ?_
        refine (c_compare G l o as M0 N S (d + 5) 0 5 (by decide) (by decide) σ9 _ _ r9 r95).mono (fun x9 σx hp => ?_)
        obtain ⟨e9, q, rfl, q1, q2, q3, q5⟩ := hp
        intro M hM
        rw [e9] at hM; clear e9 σx
        show xX G l _ (d + 6) _ _ _ (_ :: _) M N S
        refine xi_if_ne (q := 154) 158 dX9_turned_151 (by decide) rfl rfl (by omega) (by omega) (fun hc151 => ?_) (fun hc151 => ?_)
        · refine xn_iconst (q := 159) 0 dX9_turned_158 rfl (by decide) ?_
          refine x_istore_n (q := 160) (ls' := [(0, _), (1, _), (2, _), (3, _)]) [1, 2, 0, 3] dX9_turned_159 rfl (by decide) rfl ?_
          refine xn_iinc (q := 163) (ls' := [(0, _), (1, _), (2, _), (3, _)]) [1, 2, 3, 0] 1 dX9_turned_160 rfl rfl (by decide) (by decide) rfl ?_
          refine x_goto 29 dX9_turned_163 (by decide) ?_
          have hE0 : tuE c (rowAt rs r) k = false := decide_eq_false (fun e => hc151 (q5.mpr (congrArg Int.natAbs e)))
          exact ih (k + 1) (by omega) σ9 M false (hkp.trans (kA.trans (kB.trans (kC.trans (kD.trans kE))))) hM (fun σ' M k' h1 h2 => by have hx := hx σ' M k' h1 h2; rw [hE0, bI_ne.mp hc40, Bool.true_and] at hx; exact hx)
        · refine xn_iconst (q := 155) 1 dX9_turned_154 rfl (by decide) ?_
          refine x_goto 159 dX9_turned_155 (by decide) ?_
          refine x_istore_n (q := 160) (ls' := [(0, _), (1, _), (2, _), (3, _)]) [1, 2, 0, 3] dX9_turned_159 rfl (by decide) rfl ?_
          refine xn_iinc (q := 163) (ls' := [(0, _), (1, _), (2, _), (3, _)]) [1, 2, 3, 0] 1 dX9_turned_160 rfl rfl (by decide) (by decide) rfl ?_
          refine x_goto 29 dX9_turned_163 (by decide) ?_
          have hE0 : tuE c (rowAt rs r) k = true := decide_eq_true (sg_abs hc142 (q5.mp hc151))
          exact ih (k + 1) (by omega) σ9 M true (hkp.trans (kA.trans (kB.trans (kC.trans (kD.trans kE))))) hM (fun σ' M k' h1 h2 => by have hx := hx σ' M k' h1 h2; rw [hE0, bI_ne.mp hc40, Bool.true_and] at hx; exact hx)
set_option maxRecDepth 100000 in
set_option maxHeartbeats 4000000 in
theorem c_turned (G : xG) (l : Launch) (o : Nat) (as : Nat → Nat) (M0 : xM) (N S : Nat) (d : Nat) (σ : mS) (z : mT) (hR : RR σ z) (hok : slvOk z.1) (r : Int) (hr1 : -2147483648 ≤ r) (hr2 : r < 2147483648) : mC G l o as M0 N S YX9_turned (d + 7) [.int (iI r)] σ (fun x σ' => x = some (.int (bI (spTurned z r))) ∧ RR σ' z) := by
  refine mC.of (ls := [(0, .ref o), (1, .int (iI r))]) (by decide) (Nat.le_of_ble_eq_true rfl) rfl fun M hM => ?_
  refine x_aload_n (q := 1) dX9_turned_0 rfl rfl ?_
  refine xn_iconst (q := 2) 0 dX9_turned_1 rfl (by decide) ?_
  refine m_putG (q := 5) hM 0 fwX9_97 (by decide) rfl rfl rfl dX9_turned_2 rfl rfl rfl (fun M σ2 a2 e2 b2 hM => ?_)
  refine x_aload_n (q := 6) dX9_turned_5 rfl rfl ?_
  refine x_iload_n (q := 7) dX9_turned_6 rfl rfl ?_
  refine m_call (q := 10) (As := [_]) hM imX9_isRow ivX9_isRow ilX9_isRow mwX9_310 xciX9 dX9_turned_7 rfl rfl rfl (Nat.le_of_ble_eq_true rfl) ?_
  refine (c_isRow G l o as M0 N S d σ2 z (hR.code a2 b2) hok r hr1 hr2).mono (fun x9 σ9 hp => ?_)
  obtain ⟨rfl, r9⟩ := hp
  intro M hM
  show xX G l _ (d + 7) _ _ _ _ M N S
  refine x_if_eq (q := 13) 23 dX9_turned_10 (by decide) rfl (fun hc10 => ?_) (fun hc10 => ?_)
  · refine xn_iconst (q := 24) 0 dX9_turned_23 rfl (by decide) ?_
    exact x_zret rfl (by decide) dX9_turned_24 (m_ret hM ⟨by unfold spTurned; rw [bI_eq.mp hc10]; rfl, r9.rr⟩)
  · have hir := bI_ne.mp hc10
    obtain ⟨i1, i2, i3, i4⟩ := of_decide_eq_true hir
    have hsv := r9.sv i3
    have hrow := r9.2.2.2.2.2.2 r.toNat (by omega)
    have h8 := r9.2.2.2.2.1
    have hokr : okRow z.1 (rowAt z.2.2 r.toNat) := hrow.2.2.2
    have er : iI r = nI r.toNat := by rw [nI_i r.toNat]; exact congrArg iI (by omega)
    have hw3 : (rowAt z.2.2 r.toNat).1 ≤ 3 := by unfold okRow at hokr; omega
    refine x_aload_n (q := 14) dX9_turned_13 rfl rfl ?_
    refine m_get (q := 17) hM 11 fwX9_32 (by decide) dX9_turned_14 rfl rfl ?_
    refine x_iload_n (q := 18) dX9_turned_17 rfl rfl ?_
    refine x_topi (y := nI r.toNat) er ?_
    refine m_iald (q := 19) hM (n := 8) (by decide) dX9_turned_18 rfl (by omega) ?_
    rw [show σ9.2.1 11 r.toNat = nI (rowAt z.2.2 r.toNat).1 from hrow.1]
    refine xn_iconst (q := 20) 2 dX9_turned_19 rfl (by decide) ?_
    refine xn_icmp_eq (q := 23) 25 dX9_turned_20 (by decide) rfl (by omega) (by omega) (fun hc20 => ?_) (fun hc20 => ?_)
    · refine xn_iconst (q := 26) 1 dX9_turned_25 rfl (by decide) ?_
      refine x_istore_n (q := 27) (ls' := [(0, _), (1, _), (2, _)]) [1, 2, 0] dX9_turned_26 rfl (by decide) rfl ?_
      refine xn_iconst (q := 28) 0 dX9_turned_27 rfl (by decide) ?_
      refine x_istore_n (q := 29) (ls' := [(0, _), (1, _), (2, _), (3, _)]) [1, 2, 3, 0] dX9_turned_28 rfl (by decide) rfl ?_
      rw [er]
      have e0 : spTurned z r = (true && tuA z.1 (rowAt z.2.2 r.toNat) (5 * z.1.m) 0) := by unfold spTurned; rw [hir, decide_eq_true hc20]; rfl
      rw [e0]
      refine c_turned_l G l o as M0 N S (d + 1) σ9 z.1 hsv z.2.2 r9.2.2.2.2 r.toNat (by omega) hc20 _ (5 * z.1.m) 0 (Nat.zero_add _) σ9 M true keeps.rfl' hM (fun σ2 M k' k2 hM => ?_)
      refine x_iload_n (q := 167) dX9_turned_166 rfl rfl ?_
      exact x_zret rfl (bI_n _) dX9_turned_167 (m_ret hM ⟨rfl, (r9.keeps k2 (by decide)).rr⟩)
    · refine xn_iconst (q := 24) 0 dX9_turned_23 rfl (by decide) ?_
      exact x_zret rfl (by decide) dX9_turned_24 (m_ret hM ⟨by unfold spTurned; rw [decide_eq_false hc20, Bool.false_and, Bool.and_false]; rfl, r9.rr⟩)
def sR (c : mCf) (k : Nat) : Nat → Int
  | 0 => 0
  | j + 1 => if c.Hi j = true then sR c k j + 1 * valP c 3 j 0 (k / 5) (k % 5) (4 * c.m + 5 * (k / 5) + k % 5) else sR c k j
def suE (c : mCf) (k : Nat) : Bool := decide (sR c k (c.m + 1) = solD c)
def suA (c : mCf) : Nat → Nat → Bool
  | 0, _ => true
  | u + 1, k => suE c k && suA c u (k + 1)
def spSums (c : mCf) : Bool := !looseB c && suA c (5 * c.m) 0
theorem BW_le2 {u : Nat} {j : Nat} (hj : j ≤ 99) (h : u ≤ j * BW) : u < B9 ^ 27 := by
  have h1 : j * BW ≤ 99 * BW := Nat.mul_le_mul_right _ hj
  have h2 : 99 * BW < B9 ^ 27 := by
    have e : B9 ^ 27 = B9 * B9 ^ 26 := by rw [Nat.pow_succ, Nat.mul_comm]
    rw [BW_def, e]
    exact Nat.mul_lt_mul_of_pos_right (by decide) (Nat.pow_pos (by decide))
  omega
set_option maxRecDepth 100000 in
set_option maxHeartbeats 4000000 in
theorem c_sums_i (G : xG) (l : Launch) (o : Nat) (as : Nat → Nat) (M0 : xM) (N S : Nat) (d : Nat) (σ : mS) (c : mCf) (hs : Sv σ c) (k : Nat) (hk : k < 5 * c.m) (sm : Bool) (Q : xPost)
    (hx : ∀ σ' M, keeps [0, 2, 3, 4, 5] σ σ' → Reg σ' 5 (sR c k (c.m + 1)) → mAt o as σ' M0 M → xX G l YX9_sums (d + 5) Q 106 [(0, .ref o), (1, .int (bI sm)), (2, .int (nI k)), (3, .int (nI (c.m + 1)))] [] M N S) :
    ∀ (u j : Nat), j + u = c.m + 1 → ∀ σ' M, keeps [0, 2, 3, 4, 5] σ σ' → Reg σ' 5 (sR c k j) → (sR c k j).natAbs ≤ (6 * j) * BW → mAt o as σ' M0 M → xX G l YX9_sums (d + 5) Q 46 [(0, .ref o), (1, .int (bI sm)), (2, .int (nI k)), (3, .int (nI j))] [] M N S := by
  have hm3 := hs.1.1.2.1
  intro u
  induction u with
  | zero =>
    intro j hj σ' M hkp h5 hb hM
    obtain rfl : j = c.m + 1 := by omega
    have h3 : σ'.1 3 = nI c.m := by rw [hkp.1]; exact hs.1.2.1
    refine x_iload_n (q := 47) dX9_sums_46 rfl rfl ?_
    refine x_aload_n (q := 48) dX9_sums_47 rfl rfl ?_
    refine m_get (q := 51) hM 3 fwX9_93 (by decide) dX9_sums_48 rfl rfl ?_
    rw [h3]
    refine xn_icmp_gt (q := 54) 106 dX9_sums_51 (by decide) rfl (by omega) (by omega) (fun hc51 => ?_) (fun hc51 => absurd hc51 (by omega))
    exact hx σ' M hkp h5 hM
  | succ u ih =>
    intro j hj σ' M hkp h5 hb hM
    have h3 : σ'.1 3 = nI c.m := by rw [hkp.1]; exact hs.1.2.1
    have hsv := hs.keeps hkp (by decide)
    have ih := ih (j + 1) (by omega)
    unfold sR at ih
    refine x_iload_n (q := 47) dX9_sums_46 rfl rfl ?_
    refine x_aload_n (q := 48) dX9_sums_47 rfl rfl ?_
    refine m_get (q := 51) hM 3 fwX9_93 (by decide) dX9_sums_48 rfl rfl ?_
    rw [h3]
    refine xn_icmp_gt (q := 54) 106 dX9_sums_51 (by decide) rfl (by omega) (by omega) (fun hc51 => absurd hc51 (by omega)) (fun hc51 => ?_)
    refine x_aload_n (q := 55) dX9_sums_54 rfl rfl ?_
    refine m_get (q := 58) hM 7 fwX9_23 (by decide) dX9_sums_55 rfl rfl ?_
    refine x_iload_n (q := 59) dX9_sums_58 rfl rfl ?_
    refine m_zald (q := 60) hM (n := 4) (by decide) dX9_sums_59 rfl (by omega) ?_
    rw [hsv.1.2.2.2.2.2.1 j (by omega)]
    refine x_if_eq (q := 63) 100 dX9_sums_60 (by decide) rfl (fun hc60 => ?_) (fun hc60 => ?_)
    · refine xn_iinc (q := 103) (ls' := [(0, _), (1, _), (2, _), (3, _)]) [1, 2, 3, 0] 1 dX9_sums_100 rfl rfl (by decide) (by decide) rfl ?_
      refine x_goto 46 dX9_sums_103 (by decide) ?_
      rw [if_neg (by rw [bI_eq.mp hc60]; decide)] at ih
      exact ih σ' M hkp h5 (Nat.le_trans hb (Nat.mul_le_mul_right _ (by omega))) hM
    · refine x_aload_n (q := 64) dX9_sums_63 rfl rfl ?_
      refine xn_iconst (q := 65) 3 dX9_sums_64 rfl (by decide) ?_
      refine x_iload_n (q := 66) dX9_sums_65 rfl rfl ?_
      refine xn_iconst (q := 67) 0 dX9_sums_66 rfl (by decide) ?_
      refine x_iload_n (q := 68) dX9_sums_67 rfl rfl ?_
      refine xn_iconst (q := 69) 5 dX9_sums_68 rfl (by decide) ?_
      refine xn_idiv (q := 70) dX9_sums_69 rfl (by omega) (by omega) (by omega) ?_
      refine x_iload_n (q := 71) dX9_sums_70 rfl rfl ?_
      refine xn_iconst (q := 72) 5 dX9_sums_71 rfl (by decide) ?_
      refine xn_irem (q := 73) dX9_sums_72 rfl (by omega) (by omega) (by omega) ?_
      refine x_aload_n (q := 74) dX9_sums_73 rfl rfl ?_
      refine x_iload_n (q := 75) dX9_sums_74 rfl rfl ?_
      refine xn_iconst (q := 76) 5 dX9_sums_75 rfl (by decide) ?_
      refine xn_idiv (q := 77) dX9_sums_76 rfl (by omega) (by omega) (by omega) ?_
      refine x_iload_n (q := 78) dX9_sums_77 rfl rfl ?_
      refine xn_iconst (q := 79) 5 dX9_sums_78 rfl (by decide) ?_
      refine xn_irem (q := 80) dX9_sums_79 rfl (by omega) (by omega) (by omega) ?_
      refine m_call (q := 83) (As := [_, _]) hM imX9_column ivX9_column ilX9_column mwX9_144 xciX9 dX9_sums_80 rfl rfl rfl (Nat.le_of_ble_eq_true rfl) ?_
      refine (c_column G l o as M0 N S (d + 4) σ' c.m _ _ hsv.1.2.1).mono (fun x9 σ9' hp => ?_)
      obtain ⟨rfl, e9⟩ := hp
      intro M hM
      rw [e9] at hM; clear e9 σ9'
      show xX G l _ (d + 5) _ _ _ _ M N S
      refine m_call (q := 86) (As := [_, _, _, _, _, _]) hM imX9_value ivX9_value ilX9_value mwX9_304 xciX9 dX9_sums_83 rfl rfl rfl (Nat.le_of_ble_eq_true rfl) ?_
      refine (c_value G l o as M0 N S d σ' c hsv 3 j 0 (k / 5) (k % 5) _ (by decide) (.inr ⟨rfl, by omega⟩) (by decide) (by omega) (by omega) (by omega)).mono (fun x9 σ5 hp => ?_)
      obtain ⟨rfl, k5, r5, b5⟩ := hp
      intro M hM
      show xX G l _ (d + 5) _ _ _ _ M N S
      have kA : keeps [0, 2, 3, 4, 5] σ' σ5 := k5.mono (by intro r hr; simp at hr ⊢; omega)
      have r55 := k5.reg (by decide) h5
      refine x_aload_n (q := 87) dX9_sums_86 rfl rfl ?_
      refine xn_iconst (q := 88) 5 dX9_sums_87 rfl (by decide) ?_
      refine xn_iconst (q := 89) 0 dX9_sums_88 rfl (by decide) ?_
      refine xn_iconst (q := 90) 1 dX9_sums_89 rfl (by decide) ?_
      refine xn_iconst (q := 91) 4 dX9_sums_90 rfl (by decide) ?_
      refine m_call (q := 94) (As := [_, _, _, _]) hM imX9_add ivX9_add ilX9_add mwX9_201 xciX9 dX9_sums_91 rfl rfl rfl (Nat.le_of_ble_eq_true rfl) ?_
      refine (c_add G l o as M0 N S (d + 2) 5 0 4 (by decide) (by decide) (by decide) (by decide) (by decide) σ5 _ _ 1 _ r55 r5 (.inl rfl) rfl (B9_27_399 (BW_le2 (j := 6 * j) (by omega) hb) (by decide)) (B9_27_399 (BW_le (j := 6) (by decide) b5) (by decide))).mono (fun x9 σ6 hp => ?_)
      obtain ⟨rfl, k6, r6⟩ := hp
      intro M hM
      show xX G l _ (d + 5) _ _ _ _ M N S
      have kB : keeps [0, 2, 3, 4, 5] σ5 σ6 := k6.s (by simp)
      refine x_aload_n (q := 95) dX9_sums_94 rfl rfl ?_
      refine xn_iconst (q := 96) 4 dX9_sums_95 rfl (by decide) ?_
      refine xn_iconst (q := 97) 5 dX9_sums_96 rfl (by decide) ?_
      refine m_call (q := 100) (As := [_, _]) hM imX9_copy ivX9_copy ilX9_copy mwX9_107 xciX9 dX9_sums_97 rfl rfl rfl (Nat.le_of_ble_eq_true rfl) ?_
      refine (c_copy G l o as M0 N S (d + 4) 4 5 (by decide) (by decide) (by decide) σ6 _ r6).mono (fun x9 σ7 hp => ?_)
      obtain ⟨rfl, k7, r7⟩ := hp
      intro M hM
      show xX G l _ (d + 5) _ _ _ _ M N S
      have kC : keeps [0, 2, 3, 4, 5] σ6 σ7 := k7.s (by simp)
      refine xn_iinc (q := 103) (ls' := [(0, _), (1, _), (2, _), (3, _)]) [1, 2, 3, 0] 1 dX9_sums_100 rfl rfl (by decide) (by decide) rfl ?_
      refine x_goto 46 dX9_sums_103 (by decide) ?_
      rw [if_pos (bI_ne.mp hc60)] at ih
      refine ih σ7 M (hkp.trans (kA.trans (kB.trans kC))) r7 ?_ hM
      rw [Int.one_mul, show 6 * (j + 1) = 6 * j + 6 from rfl, Nat.add_mul]
      have := Int.natAbs_add_le (sR c k j) (valP c 3 j 0 (k / 5) (k % 5) (4 * c.m + 5 * (k / 5) + k % 5))
      omega
set_option maxRecDepth 100000 in
set_option maxHeartbeats 4000000 in
theorem c_sums_o (G : xG) (l : Launch) (o : Nat) (as : Nat → Nat) (M0 : xM) (N S : Nat) (d : Nat) (σ : mS) (c : mCf) (hs : Sv σ c) (Q : xPost) :
    ∀ (u k : Nat), k + u = 5 * c.m → ∀ σ' M sm, keeps [0, 2, 3, 4, 5] σ σ' → mAt o as σ' M0 M → (∀ σ' M (k' : Nat), keeps [0, 2, 3, 4, 5] σ σ' → mAt o as σ' M0 M → xX G l YX9_sums (d + 5) Q 144 [(0, .ref o), (1, .int (bI (sm && suA c u k))), (2, .int (nI k'))] [] M N S) → xX G l YX9_sums (d + 5) Q 24 [(0, .ref o), (1, .int (bI sm)), (2, .int (nI k))] [] M N S := by
  have hm3 := hs.1.1.2.1
  intro u
  induction u with
  | zero =>
    intro k hk σ' M sm hkp hM hx
    have hx := hx σ' M k hkp hM
    unfold suA at hx
    rw [Bool.and_true] at hx
    have h3 : σ'.1 3 = nI c.m := by rw [hkp.1]; exact hs.1.2.1
    refine x_iload_n (q := 25) dX9_sums_24 rfl rfl ?_
    refine xn_iconst (q := 26) 5 dX9_sums_25 rfl (by decide) ?_
    refine x_aload_n (q := 27) dX9_sums_26 rfl rfl ?_
    refine m_get (q := 30) hM 3 fwX9_93 (by decide) dX9_sums_27 rfl rfl ?_
    rw [h3]
    refine xn_imul (q := 31) dX9_sums_30 rfl ?_
    refine xn_icmp_ge (q := 34) 144 dX9_sums_31 (by decide) rfl (by omega) (by omega) (fun hc31 => ?_) (fun hc31 => absurd hc31 (by omega))
    exact hx
  | succ u ih =>
    intro k hk σ' M sm hkp hM hx
    have h3 : σ'.1 3 = nI c.m := by rw [hkp.1]; exact hs.1.2.1
    have hsv := hs.keeps hkp (by decide)
    unfold suA at hx
    refine x_iload_n (q := 25) dX9_sums_24 rfl rfl ?_
    refine xn_iconst (q := 26) 5 dX9_sums_25 rfl (by decide) ?_
    refine x_aload_n (q := 27) dX9_sums_26 rfl rfl ?_
    refine m_get (q := 30) hM 3 fwX9_93 (by decide) dX9_sums_27 rfl rfl ?_
    rw [h3]
    refine xn_imul (q := 31) dX9_sums_30 rfl ?_
    refine xn_icmp_ge (q := 34) 144 dX9_sums_31 (by decide) rfl (by omega) (by omega) (fun hc31 => absurd hc31 (by omega)) (fun hc31 => ?_)
    refine x_iload_n (q := 35) dX9_sums_34 rfl rfl ?_
    refine x_if_eq (q := 38) 144 dX9_sums_35 (by decide) rfl (fun hc35 => ?_) (fun hc35 => ?_)
    · have hx := hx σ' M k hkp hM
      rw [bI_eq.mp hc35, Bool.false_and] at hx; rw [bI_eq.mp hc35]; exact hx
    · refine x_aload_n (q := 39) dX9_sums_38 rfl rfl ?_
      refine xn_iconst (q := 40) 5 dX9_sums_39 rfl (by decide) ?_
      refine xn_lconst (q := 41) 0 dX9_sums_40 rfl (by decide) ?_
      refine m_call (q := 44) (As := [_, _]) hM imX9_put ivX9_put ilX9_put mwX9_121 xciX9 dX9_sums_41 rfl rfl rfl (Nat.le_of_ble_eq_true rfl) ?_
      refine (c_put G l o as M0 N S (d + 4) 5 (by decide) (lN 0) 0 rfl (by decide) σ').mono (fun x9 σ5 hp => ?_)
      obtain ⟨rfl, k5, r5⟩ := hp
      intro M hM
      show xX G l _ (d + 5) _ _ _ _ M N S
      refine xn_iconst (q := 45) 0 dX9_sums_44 rfl (by decide) ?_
      refine x_istore_n (q := 46) (ls' := [(0, _), (1, _), (2, _), (3, _)]) [1, 2, 3, 0] dX9_sums_45 rfl (by decide) rfl ?_
      refine c_sums_i G l o as M0 N S d σ5 c (hsv.keeps (k5.s (L := [5]) (by simp)) (by decide)) k (by omega) sm _ (fun σ9 M k9 r9 hM => ?_) (c.m + 1) 0 (Nat.zero_add _) σ5 M keeps.rfl' r5 (by show (0 : Nat) ≤ _; omega) hM
      have kF := hkp.trans ((k5.s (by simp) : keeps [0, 2, 3, 4, 5] σ' σ5).trans k9)
      have r10 := kF.reg (by decide) hs.2.2
      refine x_aload_n (q := 107) dX9_sums_106 rfl rfl ?_
      refine m_get (q := 110) hM 16 fwX9_47 (by decide) dX9_sums_107 rfl rfl ?_
      refine xn_iconst (q := 111) 5 dX9_sums_110 rfl (by decide) ?_
      refine m_iald (q := 112) hM (n := 16) (by decide) dX9_sums_111 rfl (by omega) ?_
      rw [show σ9.2.1 16 5 = sg _ from r9.choose_spec.2.2.2.1]
      refine x_aload_n (q := 113) dX9_sums_112 rfl rfl ?_
      refine m_get (q := 116) hM 16 fwX9_47 (by decide) dX9_sums_113 rfl rfl ?_
      refine xn_bipush (q := 118) 10 dX9_sums_116 rfl (by decide) ?_
      refine m_iald (q := 119) hM (n := 16) (by decide) dX9_sums_118 rfl (by omega) ?_
      rw [show σ9.2.1 16 10 = sg _ from r10.choose_spec.2.2.2.1]
      refine x_icmp_ne (q := 122) 136 dX9_sums_119 (by decide) rfl (fun hc119 => ?_) (fun hc119 => ?_)
      · refine xn_iconst (q := 137) 0 dX9_sums_136 rfl (by decide) ?_
        refine x_istore_n (q := 138) (ls' := [(0, _), (1, _), (2, _), (3, _)]) [1, 0, 2, 3] dX9_sums_137 rfl (by decide) rfl ?_
        refine xn_iinc (q := 141) (ls' := [(0, _), (1, _), (2, _), (3, _)]) [1, 2, 0, 3] 1 dX9_sums_138 rfl rfl (by decide) (by decide) rfl ?_
        refine x_goto 24 dX9_sums_141 (by decide) ?_
        refine x_ls (ls' := [(0, _), (1, _), (2, _)]) [0, 1, 2] rfl ?_
        have hE0 : suE c k = false := decide_eq_false (fun e => hc119 (congrArg sg e))
        exact ih (k + 1) (by omega) σ9 M false kF hM (fun σ' M k' h1 h2 => by have hx := hx σ' M k' h1 h2; rw [hE0, bI_ne.mp hc35, Bool.true_and] at hx; exact hx)
      · refine x_aload_n (q := 123) dX9_sums_122 rfl rfl ?_
        refine xn_iconst (q := 124) 5 dX9_sums_123 rfl (by decide) ?_
        refine xn_bipush (q := 126) 10 dX9_sums_124 rfl (by decide) ?_
        refine m_call (q := 129) (As := [_, _]) hM imX9_compare ivX9_compare ilX9_compare mwX9_114 xciX9 dX9_sums_126 rfl rfl rfl (Nat.le_of_ble_eq_true rfl) ?_
        refine (c_compare G l o as M0 N S (d + 4) 5 10 (by decide) (by decide) σ9 _ _ r9 r10).mono (fun x9 σx hp => ?_)
        obtain ⟨e9, q, rfl, q1, q2, q3, q5⟩ := hp
        intro M hM
        rw [e9] at hM; clear e9 σx
        show xX G l _ (d + 5) _ _ _ (_ :: _) M N S
        refine xi_if_ne (q := 132) 136 dX9_sums_129 (by decide) rfl rfl (by omega) (by omega) (fun hc129 => ?_) (fun hc129 => ?_)
        · refine xn_iconst (q := 137) 0 dX9_sums_136 rfl (by decide) ?_
          refine x_istore_n (q := 138) (ls' := [(0, _), (1, _), (2, _), (3, _)]) [1, 0, 2, 3] dX9_sums_137 rfl (by decide) rfl ?_
          refine xn_iinc (q := 141) (ls' := [(0, _), (1, _), (2, _), (3, _)]) [1, 2, 0, 3] 1 dX9_sums_138 rfl rfl (by decide) (by decide) rfl ?_
          refine x_goto 24 dX9_sums_141 (by decide) ?_
          refine x_ls (ls' := [(0, _), (1, _), (2, _)]) [0, 1, 2] rfl ?_
          have hE0 : suE c k = false := decide_eq_false (fun e => hc129 (q5.mpr (congrArg Int.natAbs e)))
          exact ih (k + 1) (by omega) σ9 M false kF hM (fun σ' M k' h1 h2 => by have hx := hx σ' M k' h1 h2; rw [hE0, bI_ne.mp hc35, Bool.true_and] at hx; exact hx)
        · refine xn_iconst (q := 133) 1 dX9_sums_132 rfl (by decide) ?_
          refine x_goto 137 dX9_sums_133 (by decide) ?_
          refine x_istore_n (q := 138) (ls' := [(0, _), (1, _), (2, _), (3, _)]) [1, 0, 2, 3] dX9_sums_137 rfl (by decide) rfl ?_
          refine xn_iinc (q := 141) (ls' := [(0, _), (1, _), (2, _), (3, _)]) [1, 2, 0, 3] 1 dX9_sums_138 rfl rfl (by decide) (by decide) rfl ?_
          refine x_goto 24 dX9_sums_141 (by decide) ?_
          refine x_ls (ls' := [(0, _), (1, _), (2, _)]) [0, 1, 2] rfl ?_
          have hE0 : suE c k = true := decide_eq_true (sg_abs hc119 (q5.mp hc129))
          exact ih (k + 1) (by omega) σ9 M true kF hM (fun σ' M k' h1 h2 => by have hx := hx σ' M k' h1 h2; rw [hE0, bI_ne.mp hc35, Bool.true_and] at hx; exact hx)
set_option maxRecDepth 100000 in
set_option maxHeartbeats 4000000 in
theorem c_sums (G : xG) (l : Launch) (o : Nat) (as : Nat → Nat) (M0 : xM) (N S : Nat) (d : Nat) (σ : mS) (z : mT) (hR : RR σ z) (hok : slvOk z.1) : mC G l o as M0 N S YX9_sums (d + 6) [] σ (fun x σ' => x = some (.int (bI (spSums z.1))) ∧ RR σ' z) := by
  refine mC.of (ls := [(0, .ref o)]) (by decide) (Nat.le_of_ble_eq_true rfl) rfl fun M hM => ?_
  refine x_aload_n (q := 1) dX9_sums_0 rfl rfl ?_
  refine xn_iconst (q := 2) 0 dX9_sums_1 rfl (by decide) ?_
  refine m_putG (q := 5) hM 0 fwX9_97 (by decide) rfl rfl rfl dX9_sums_2 rfl rfl rfl (fun M σ2 a2 e2 b2 hM => ?_)
  refine x_aload_n (q := 6) dX9_sums_5 rfl rfl ?_
  refine m_call (q := 9) (As := []) hM imX9_solveAll ivX9_solveAll ilX9_solveAll mwX9_252 xciX9 dX9_sums_6 rfl rfl rfl (Nat.le_of_ble_eq_true rfl) ?_
  refine (c_solveR G l o as M0 N S d σ2 z (hR.code a2 b2) hok).mono (fun x9 σ9 hp => ?_)
  obtain ⟨rfl, z9, r9⟩ := hp
  intro M hM
  show xX G l _ (d + 6) _ _ _ _ M N S
  have hm3 := r9.1.1.2.1
  have hm1 := r9.1.1.1
  refine x_aload_n (q := 10) dX9_sums_9 rfl rfl ?_
  refine m_get (q := 13) hM 23 fwX9_212 (by decide) dX9_sums_10 rfl rfl ?_
  rw [r9.2.2.1.1.1]
  refine x_if_ne (q := 16) 20 dX9_sums_13 (by decide) rfl (fun hc13 => ?_) (fun hc13 => ?_)
  · refine xn_iconst (q := 21) 0 dX9_sums_20 rfl (by decide) ?_
    refine x_istore_n (q := 22) (ls' := [(0, _), (1, _)]) [1, 0] dX9_sums_21 rfl (by decide) rfl ?_
    refine xn_iconst (q := 23) 0 dX9_sums_22 rfl (by decide) ?_
    refine x_istore_n (q := 24) (ls' := [(0, _), (1, _), (2, _)]) [1, 2, 0] dX9_sums_23 rfl (by decide) rfl ?_
    refine x_iload_n (q := 25) dX9_sums_24 rfl rfl ?_
    refine xn_iconst (q := 26) 5 dX9_sums_25 rfl (by decide) ?_
    refine x_aload_n (q := 27) dX9_sums_26 rfl rfl ?_
    refine m_get (q := 30) hM 3 fwX9_93 (by decide) dX9_sums_27 rfl rfl ?_
    rw [r9.1.2.1]
    refine xn_imul (q := 31) dX9_sums_30 rfl ?_
    refine xn_icmp_ge (q := 34) 144 dX9_sums_31 (by decide) rfl (by omega) (by omega) (fun hc31 => absurd hc31 (by omega)) (fun hc31 => ?_)
    refine x_iload_n (q := 35) dX9_sums_34 rfl rfl ?_
    refine xn_if_eq (q := 38) 144 dX9_sums_35 (by decide) rfl (by omega) (fun hc35 => ?_) (fun hc35 => absurd hc35 (by decide))
    refine x_iload_n (q := 145) dX9_sums_144 rfl rfl ?_
    exact x_zret rfl (by decide) dX9_sums_145 (m_ret hM ⟨by unfold spSums; rw [bI_ne.mp hc13]; rfl, r9.rr⟩)
  · refine xn_iconst (q := 17) 1 dX9_sums_16 rfl (by decide) ?_
    refine x_goto 21 dX9_sums_17 (by decide) ?_
    refine x_istore_n (q := 22) (ls' := [(0, _), (1, _)]) [1, 0] dX9_sums_21 rfl (by decide) rfl ?_
    refine xn_iconst (q := 23) 0 dX9_sums_22 rfl (by decide) ?_
    refine x_istore_n (q := 24) (ls' := [(0, _), (1, _), (2, _)]) [1, 2, 0] dX9_sums_23 rfl (by decide) rfl ?_
    refine c_sums_o G l o as M0 N S (d + 1) σ9 z.1 (r9.sv (bI_eq.mp hc13)) _ (5 * z.1.m) 0 (Nat.zero_add _) σ9 M true keeps.rfl' hM (fun σ2 M k' k2 hM => ?_)
    refine x_iload_n (q := 145) dX9_sums_144 rfl rfl ?_
    exact x_zret rfl (bI_n _) dX9_sums_145 (m_ret hM ⟨by unfold spSums; rw [bI_eq.mp hc13]; rfl, (r9.keeps k2 (by decide)).rr⟩)
end XR9
