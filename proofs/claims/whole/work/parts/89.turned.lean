section XE6
theorem Pb.put6 {σ σ' : cZ} {w k q i j : Nat} {lf : Nat → Int} {gn wh : Int} {as : Nat → Bool} (h : Pb σ 6 w k q lf gn wh as) (kk : kp [6, 20 + 3 * 6] σ σ') (e : (σ' 6).1 = mu (mu (σ 6).1 9 (nI i)) 10 (nI j)) (e2 : (σ' 6).2 = (σ 6).2) : Pb σ' 6 w k q lf gn wh as := by
  obtain ⟨⟨h1, h2, h3⟩, h4, h5, h6, h7⟩ := h
  refine ⟨⟨by rw [e, mu_n (by decide), mu_n (by decide)]; exact h1, by rw [e, mu_n (by decide), mu_n (by decide)]; exact h2, by rw [e, mu_n (by decide), mu_n (by decide)]; exact h3⟩, by rw [e2]; exact h4, by rw [e2]; exact h5, fun s hs => by rw [kk _ (by decide)]; exact h6 s hs, fun hw s hs => by rw [kk _ (by decide)]; exact h7 hw s hs⟩
def exC (c : mCf) (b q k p : Nat) : Bool := decide (atU c (2, k, p) b q * ((c.E b : Nat) : Int) = atU c (2, b, q) k p * ((c.E k : Nat) : Int))
def tuC (c : mCf) (b q : Nat) : Nat → Bool
  | 0 => true
  | n + 1 => tuC c b q n && exC c b q (n / 5) (n % 5)
theorem tuC_s {c : mCf} {b q k p : Nat} (hp : p < 5) : tuC c b q (5 * k + p + 1) = (tuC c b q (5 * k + p) && exC c b q k p) := by
  show (_ && exC c b q ((5 * k + p) / 5) ((5 * k + p) % 5)) = _
  rw [show (5 * k + p) / 5 = k by omega, show (5 * k + p) % 5 = p by omega]

set_option maxRecDepth 100000 in
set_option maxHeartbeats 4000000 in
theorem b_isExchanged (G : xG) (l : Launch) (ad : Nat → Nat) (F : xM) (R : Nat × Nat) (d : Nat) (σ : cZ) (c : mCf) (t : List Nat) (rs : List (Nat × Nat × Nat)) (hok : okL c) (hfo : frOk c) (hJ : Cj σ c t rs) (n k p : Nat) (hn : n < rs.length) (h2 : (rowAt rs n).1 = 2) (hk3 : k < c.m) (hp4 : p ≤ 4) : cC G l ad F R YX8_isExchanged (d + 6) [.ref (ad 0), .int (nI n), .int (nI k), .int (nI p)] σ (fun r σ' => r = some (.int (bI (exC c (rowAt rs n).2.1 (rowAt rs n).2.2 k p))) ∧ Cj σ' c t rs ∧ (σ' 0).2.1 13 = iL (-1)) := by
  have hm := hok.1
  have h8 := hJ.2.2.1.1
  have hl8 : n < 8 := by omega
  have hr4 := hJ.2.2.1.2.2 n hn
  have hrow' : okRow c (rowAt rs n) := hr4.2.2.2
  have hb3 : (rowAt rs n).2.1 < c.m ∧ (rowAt rs n).2.2 ≤ 4 := by rcases hrow' with z | z <;> omega
  have hrow : okRow c (2, (rowAt rs n).2.1, (rowAt rs n).2.2) := .inl ⟨by show 2 ≤ 2; omega, hb3.1, hb3.2⟩
  have hrow2 : okRow c (2, k, p) := .inl ⟨by show 2 ≤ 2; omega, hk3, hp4⟩
  have hx1 := B9up (at_lt hok hfo hrow hk3 hp4) (show 39 ≤ 1000 by decide)
  have hx2 := B9up (at_lt hok hfo hrow2 hb3.1 hb3.2) (show 39 ≤ 1000 by decide)
  have x0 : (0 : Int).natAbs < B9 ^ 1000 := by rw [Int.natAbs_zero]; exact B9_pos _
  have hE1 : (((c.E k : Nat) : Int)).natAbs ≤ 3000000000 := by rw [Int.natAbs_natCast]; exact Nat.le_trans (hok.2 k (by omega)).2.2 (by decide)
  have hE2 : (((c.E (rowAt rs n).2.1 : Nat) : Int)).natAbs ≤ 3000000000 := by rw [Int.natAbs_natCast]; exact Nat.le_trans (hok.2 (rowAt rs n).2.1 (by clear hx1 hx2 x0 hE1; omega)).2.2 (by decide)
  have hk33 : k < 3 := by clear hx1 hx2 x0 hE1 hE2; omega
  have hb33 : (rowAt rs n).2.1 < 3 := by clear hx1 hx2 x0 hE1 hE2; omega
  refine cC.of (ls := [(0, .ref (ad 0)), (1, .int (nI n)), (2, .int (nI k)), (3, .int (nI p))]) (by decide) (Nat.le_of_ble_eq_true rfl) rfl fun M N S hM => ?_

  refine x_aload_n (q := 1) dX8_isExchanged_0 rfl rfl ?_
  refine c_get (q := 4) (k := 0) (f := 4) hM rfl xclX8 fwX8_40 (by decide) dX8_isExchanged_1 rfl rfl ?_
  refine xn_iconst (q := 5) 2 dX8_isExchanged_4 rfl (by decide) ?_
  refine x_aload_n (q := 6) dX8_isExchanged_5 rfl rfl ?_
  refine c_get (q := 9) (k := 0) (f := 10) hM rfl xclX8 fwX8_72 (by decide) dX8_isExchanged_6 rfl rfl ?_
  refine x_iload_n (q := 10) dX8_isExchanged_9 rfl rfl ?_
  refine c_iald (q := 11) (k := 12) (n := 8) hM rfl (by decide) (by decide) dX8_isExchanged_10 rfl hl8 ?_
  refine x_topi (y := nI (rowAt rs n).2.1) (by exact (hJ.2.2.1.2.2 n hn).2.1) ?_
  refine x_aload_n (q := 12) dX8_isExchanged_11 rfl rfl ?_
  refine c_get (q := 15) (k := 0) (f := 11) hM rfl xclX8 fwX8_75 (by decide) dX8_isExchanged_12 rfl rfl ?_
  refine x_iload_n (q := 16) dX8_isExchanged_15 rfl rfl ?_
  refine c_iald (q := 17) (k := 13) (n := 8) hM rfl (by decide) (by decide) dX8_isExchanged_16 rfl hl8 ?_
  refine x_topi (y := nI (rowAt rs n).2.2) (by exact (hJ.2.2.1.2.2 n hn).2.2.1) ?_
  refine c_call (q := 20) (k := 5) (As := [_, _, _]) hM rfl imX5_aim ivX5_aim ilX5_aim mwX8_162 xciX5 dX8_isExchanged_17 rfl rfl rfl (Nat.le_of_ble_eq_true rfl) ?_
  refine (b_aim G l ad F R (d + 2) σ 5 (.inl rfl) c hJ.1 hok hJ.2.2.2.1.2.fz 2 _ _ hrow).mono (fun x9 σ17 hp => ?_)
  obtain ⟨rfl, r1, r2⟩ := hp
  intro M N S hM
  show xX G l _ (d + 6) _ _ _ _ M N S
  have J1 := hJ.of_kp r1 (by decide)
  refine x_aload_n (q := 21) dX8_isExchanged_20 rfl rfl ?_
  refine c_get (q := 24) (k := 0) (f := 4) hM rfl xclX8 fwX8_40 (by decide) dX8_isExchanged_21 rfl rfl ?_
  refine x_iload_n (q := 25) dX8_isExchanged_24 rfl rfl ?_
  refine x_iload_n (q := 26) dX8_isExchanged_25 rfl rfl ?_
  refine c_call (q := 29) (k := 5) (As := [_, _]) hM rfl imX5_put ivX5_put ilX5_put mwX8_166 xciX5 dX8_isExchanged_26 rfl rfl rfl (Nat.le_of_ble_eq_true rfl) ?_
  refine (b_put G l ad F R (d + 3) σ17 5 (.inl rfl) c J1.1 hok J1.2.2.2.1.2.fz k p hk3 hp4).mono (fun x9 σ26 hp => ?_)
  obtain ⟨rfl, s1, s2, s3, s4⟩ := hp
  intro M N S hM
  show xX G l _ (d + 6) _ _ _ _ M N S
  have J2 := J1.of_kp s1 (by decide)
  have hPb := r2.put s1 s2 s3
  refine x_aload_n (q := 30) dX8_isExchanged_29 rfl rfl ?_
  refine c_get (q := 33) (k := 0) (f := 4) hM rfl xclX8 fwX8_40 (by decide) dX8_isExchanged_30 rfl rfl ?_
  refine x_aload_n (q := 34) dX8_isExchanged_33 rfl rfl ?_
  refine c_get (q := 37) (k := 0) (f := 8) hM rfl xclX8 fwX8_64 (by decide) dX8_isExchanged_34 rfl rfl ?_
  refine c_call (q := 40) (k := 5) (As := [_]) hM rfl imX5_measure ivX5_measure ilX5_measure mwX8_173 xciX5 dX8_isExchanged_37 rfl rfl rfl (Nat.le_of_ble_eq_true rfl) ?_
  refine (b_measure G l ad F R (d + 0) σ26 5 (.inl rfl) 159 (by decide) (by decide) c J2.1 hok hfo J2.2.2.2.1.2 _ _ _ k p _ _ _ _ hrow hPb ⟨by rw [s2, mu_n (by decide), mu_s], by rw [s2, mu_s], s4⟩ hk3 hp4 (lfP_sm hok hrow) (gnP_le hok hrow)).mono (fun x9 σ37 hp => ?_)
  obtain ⟨rfl, t1, t2⟩ := hp
  intro M N S hM
  show xX G l _ (d + 6) _ _ _ _ M N S
  have J3 := J2.of_kp t1 (by decide)
  refine x_aload_n (q := 41) dX8_isExchanged_40 rfl rfl ?_
  refine c_get (q := 44) (k := 0) (f := 5) hM rfl xclX8 fwX8_44 (by decide) dX8_isExchanged_41 rfl rfl ?_
  refine xn_iconst (q := 45) 2 dX8_isExchanged_44 rfl (by decide) ?_
  refine x_iload_n (q := 46) dX8_isExchanged_45 rfl rfl ?_
  refine x_iload_n (q := 47) dX8_isExchanged_46 rfl rfl ?_
  refine c_call (q := 50) (k := 6) (As := [_, _, _]) hM rfl imX5_aim ivX5_aim ilX5_aim mwX8_162 xciX5 dX8_isExchanged_47 rfl rfl rfl (Nat.le_of_ble_eq_true rfl) ?_
  refine (b_aim G l ad F R (d + 2) σ37 6 (.inr rfl) c J3.1 hok J3.2.2.2.1.2.fz 2 _ _ hrow2).mono (fun x9 σ47 hp => ?_)
  obtain ⟨rfl, v1, v2⟩ := hp
  intro M N S hM
  show xX G l _ (d + 6) _ _ _ _ M N S
  have J4 := J3.of_kp v1 (by decide)
  refine x_aload_n (q := 51) dX8_isExchanged_50 rfl rfl ?_
  refine c_get (q := 54) (k := 0) (f := 5) hM rfl xclX8 fwX8_44 (by decide) dX8_isExchanged_51 rfl rfl ?_
  refine x_aload_n (q := 55) dX8_isExchanged_54 rfl rfl ?_
  refine c_get (q := 58) (k := 0) (f := 10) hM rfl xclX8 fwX8_72 (by decide) dX8_isExchanged_55 rfl rfl ?_
  refine x_iload_n (q := 59) dX8_isExchanged_58 rfl rfl ?_
  refine c_iald (q := 60) (k := 12) (n := 8) hM rfl (by decide) (by decide) dX8_isExchanged_59 rfl hl8 ?_
  refine x_topi (y := nI (rowAt rs n).2.1) (by exact (J4.2.2.1.2.2 n hn).2.1) ?_
  refine x_aload_n (q := 61) dX8_isExchanged_60 rfl rfl ?_
  refine c_get (q := 64) (k := 0) (f := 11) hM rfl xclX8 fwX8_75 (by decide) dX8_isExchanged_61 rfl rfl ?_
  refine x_iload_n (q := 65) dX8_isExchanged_64 rfl rfl ?_
  refine c_iald (q := 66) (k := 13) (n := 8) hM rfl (by decide) (by decide) dX8_isExchanged_65 rfl hl8 ?_
  refine x_topi (y := nI (rowAt rs n).2.2) (by exact (J4.2.2.1.2.2 n hn).2.2.1) ?_
  refine c_call (q := 69) (k := 6) (As := [_, _]) hM rfl imX5_put ivX5_put ilX5_put mwX8_166 xciX5 dX8_isExchanged_66 rfl rfl rfl (Nat.le_of_ble_eq_true rfl) ?_
  refine (b_put G l ad F R (d + 3) σ47 6 (.inr rfl) c J4.1 hok J4.2.2.2.1.2.fz _ _ hb3.1 hb3.2).mono (fun x9 σ66 hp => ?_)
  obtain ⟨rfl, w1, w2, w3, w4⟩ := hp
  intro M N S hM
  show xX G l _ (d + 6) _ _ _ _ M N S
  have J5 := J4.of_kp w1 (by decide)
  have hPb6 := v2.put6 w1 w2 w3
  refine x_aload_n (q := 70) dX8_isExchanged_69 rfl rfl ?_
  refine c_get (q := 73) (k := 0) (f := 5) hM rfl xclX8 fwX8_44 (by decide) dX8_isExchanged_70 rfl rfl ?_
  refine x_aload_n (q := 74) dX8_isExchanged_73 rfl rfl ?_
  refine c_get (q := 77) (k := 0) (f := 7) hM rfl xclX8 fwX8_57 (by decide) dX8_isExchanged_74 rfl rfl ?_
  refine c_get (q := 80) (k := 8) (f := 0) hM rfl xclX6 fwX8_170 (by decide) dX8_isExchanged_77 rfl rfl ?_
  refine c_call (q := 83) (k := 6) (As := [_]) hM rfl imX5_measure ivX5_measure ilX5_measure mwX8_173 xciX5 dX8_isExchanged_80 rfl rfl rfl (Nat.le_of_ble_eq_true rfl) ?_
  refine (b_measure G l ad F R (d + 0) σ66 6 (.inr rfl) 171 (by decide) (by decide) c J5.1 hok hfo J5.2.2.2.1.2 _ _ _ _ _ _ _ _ _ hrow2 hPb6 ⟨by rw [w2, mu_n (by decide), mu_s], by rw [w2, mu_s], w4⟩ hb3.1 hb3.2 (lfP_sm hok hrow2) (gnP_le hok hrow2)).mono (fun x9 σ80 hp => ?_)
  obtain ⟨rfl, y1, y2⟩ := hp
  intro M N S hM
  show xX G l _ (d + 6) _ _ _ _ M N S
  have J6 := J5.of_kp y1 (by decide)
  have g1 : Bg σ80 159 (atU c (2, (rowAt rs n).2.1, (rowAt rs n).2.2) k p) := y1.bg (by decide) (by decide) (w1.bg (by decide) (by decide) (v1.bg (by decide) (by decide) t2))
  have g2 : Bg σ80 171 (atU c (2, k, p) (rowAt rs n).2.1 (rowAt rs n).2.2) := y2
  refine x_aload_n (q := 84) dX8_isExchanged_83 rfl rfl ?_
  refine x_ldc2 (q := 87) (-1) dX8_isExchanged_84 rfl cwX8_82 ?_
  refine x_topl (y := iL (-1)) (by decide) ?_
  refine c_putl (q := 90) (k := 0) (f := 13) hM rfl rfl xclX8 fwX8_84 (by decide) rfl rfl (Nat.le_of_ble_eq_true rfl) dX8_isExchanged_87 rfl rfl rfl (fun M σ87 a87 e87 b87 hM => ?_)
  refine x_aload_n (q := 91) dX8_isExchanged_90 rfl rfl ?_
  refine c_get (q := 94) (k := 0) (f := 7) hM rfl xclX8 fwX8_57 (by decide) dX8_isExchanged_91 rfl rfl ?_
  refine c_get (q := 97) (k := 8) (f := 1) hM rfl xclX6 fwX8_177 (by decide) dX8_isExchanged_94 rfl rfl ?_
  refine xn_lconst (q := 98) 0 dX8_isExchanged_97 rfl (by decide) ?_
  refine x_topl (y := iL 0) rfl ?_
  refine c_call (q := 101) (k := 172) (As := [_]) hM (cE_big _ _ ⟨by decide, by decide⟩) imX2_takeLong ivX2_takeLong ilX2_takeLong mwX8_256 xciX2 dX8_isExchanged_98 rfl rfl rfl (Nat.le_of_ble_eq_true rfl) ?_
  refine (b_takeLong G l ad F R (d + 4) σ87 172 ⟨by decide, by decide⟩ 0 (by decide)).mono (fun x9 σ98 hp => ?_)
  obtain ⟨rfl, i1, i2⟩ := hp
  intro M N S hM
  show xX G l _ (d + 6) _ _ _ _ M N S
  have J7 := J6.key a87 b87.1
  have J8 := J7.of_kp i1 (by decide)
  refine x_aload_n (q := 102) dX8_isExchanged_101 rfl rfl ?_
  refine c_get (q := 105) (k := 0) (f := 7) hM rfl xclX8 fwX8_57 (by decide) dX8_isExchanged_102 rfl rfl ?_
  refine c_get (q := 108) (k := 8) (f := 1) hM rfl xclX6 fwX8_177 (by decide) dX8_isExchanged_105 rfl rfl ?_
  refine x_aload_n (q := 109) dX8_isExchanged_108 rfl rfl ?_
  refine c_get (q := 112) (k := 0) (f := 8) hM rfl xclX8 fwX8_64 (by decide) dX8_isExchanged_109 rfl rfl ?_
  refine x_aload_n (q := 113) dX8_isExchanged_112 rfl rfl ?_
  refine c_get (q := 116) (k := 0) (f := 0) hM rfl xclX8 fwX8_10 (by decide) dX8_isExchanged_113 rfl rfl ?_
  refine c_get (q := 119) (k := 1) (f := 1) hM rfl xclX1 fwX8_117 (by decide) dX8_isExchanged_116 rfl rfl ?_
  refine x_iload_n (q := 120) dX8_isExchanged_119 rfl rfl ?_
  refine c_lald (q := 121) (k := 15) (n := 3) hM rfl (by decide) (by decide) dX8_isExchanged_120 rfl hk33 ?_
  refine x_topl (y := lN (c.E k)) (by exact J8.1.2.2.2.1 k hk33) ?_
  refine x_topl (y := iL ((c.E k : Nat) : Int)) (lN_i' _) ?_
  refine c_call (q := 124) (k := 172) (As := [_, _]) hM (cE_big _ _ ⟨by decide, by decide⟩) imX2_addTimes ivX2_addTimes ilX2_addTimes mwX8_260 xciX2 dX8_isExchanged_121 rfl rfl rfl (Nat.le_of_ble_eq_true rfl) ?_
  refine (b_addTimes G l ad F R (d + 2) σ98 172 159 ⟨by decide, by decide⟩ ⟨by decide, by decide⟩ (by decide) 0 _ _ i2 (i1.bg (by decide) (by decide) (a87.bg (by decide) (by decide) g1)) hE1 x0 hx1).mono (fun x9 σ121 hp => ?_)
  obtain ⟨rfl, j1, j2⟩ := hp
  intro M N S hM
  show xX G l _ (d + 6) _ _ _ _ M N S
  have J9 := J8.of_kp j1 (by decide)
  rw [Int.zero_add] at j2
  refine x_aload_n (q := 125) dX8_isExchanged_124 rfl rfl ?_
  refine c_get (q := 128) (k := 0) (f := 8) hM rfl xclX8 fwX8_64 (by decide) dX8_isExchanged_125 rfl rfl ?_
  refine xn_lconst (q := 129) 0 dX8_isExchanged_128 rfl (by decide) ?_
  refine x_topl (y := iL 0) rfl ?_
  refine c_call (q := 132) (k := 159) (As := [_]) hM (cE_big _ _ ⟨by decide, by decide⟩) imX2_takeLong ivX2_takeLong ilX2_takeLong mwX8_256 xciX2 dX8_isExchanged_129 rfl rfl rfl (Nat.le_of_ble_eq_true rfl) ?_
  refine (b_takeLong G l ad F R (d + 4) σ121 159 ⟨by decide, by decide⟩ 0 (by decide)).mono (fun x9 σ129 hp => ?_)
  obtain ⟨rfl, k1, k2⟩ := hp
  intro M N S hM
  show xX G l _ (d + 6) _ _ _ _ M N S
  have J10 := J9.of_kp k1 (by decide)
  refine x_aload_n (q := 133) dX8_isExchanged_132 rfl rfl ?_
  refine c_get (q := 136) (k := 0) (f := 8) hM rfl xclX8 fwX8_64 (by decide) dX8_isExchanged_133 rfl rfl ?_
  refine x_aload_n (q := 137) dX8_isExchanged_136 rfl rfl ?_
  refine c_get (q := 140) (k := 0) (f := 7) hM rfl xclX8 fwX8_57 (by decide) dX8_isExchanged_137 rfl rfl ?_
  refine c_get (q := 143) (k := 8) (f := 0) hM rfl xclX6 fwX8_170 (by decide) dX8_isExchanged_140 rfl rfl ?_
  refine x_aload_n (q := 144) dX8_isExchanged_143 rfl rfl ?_
  refine c_get (q := 147) (k := 0) (f := 0) hM rfl xclX8 fwX8_10 (by decide) dX8_isExchanged_144 rfl rfl ?_
  refine c_get (q := 150) (k := 1) (f := 1) hM rfl xclX1 fwX8_117 (by decide) dX8_isExchanged_147 rfl rfl ?_
  refine x_aload_n (q := 151) dX8_isExchanged_150 rfl rfl ?_
  refine c_get (q := 154) (k := 0) (f := 10) hM rfl xclX8 fwX8_72 (by decide) dX8_isExchanged_151 rfl rfl ?_
  refine x_iload_n (q := 155) dX8_isExchanged_154 rfl rfl ?_
  refine c_iald (q := 156) (k := 12) (n := 8) hM rfl (by decide) (by decide) dX8_isExchanged_155 rfl hl8 ?_
  refine x_topi (y := nI (rowAt rs n).2.1) (by exact (J10.2.2.1.2.2 n hn).2.1) ?_
  refine c_lald (q := 157) (k := 15) (n := 3) hM rfl (by decide) (by decide) dX8_isExchanged_156 rfl hb33 ?_
  refine x_topl (y := lN (c.E (rowAt rs n).2.1)) (by exact J10.1.2.2.2.1 _ hb33) ?_
  refine x_topl (y := iL ((c.E (rowAt rs n).2.1 : Nat) : Int)) (lN_i' _) ?_
  refine c_call (q := 160) (k := 159) (As := [_, _]) hM (cE_big _ _ ⟨by decide, by decide⟩) imX2_addTimes ivX2_addTimes ilX2_addTimes mwX8_260 xciX2 dX8_isExchanged_157 rfl rfl rfl (Nat.le_of_ble_eq_true rfl) ?_
  refine (b_addTimes G l ad F R (d + 2) σ129 159 171 ⟨by decide, by decide⟩ ⟨by decide, by decide⟩ (by decide) 0 _ _ k2 (k1.bg (by decide) (by decide) (j1.bg (by decide) (by decide) (i1.bg (by decide) (by decide) (a87.bg (by decide) (by decide) g2)))) hE2 x0 hx2).mono (fun x9 σ157 hp => ?_)
  obtain ⟨rfl, l1, l2⟩ := hp
  intro M N S hM
  show xX G l _ (d + 6) _ _ _ _ M N S
  have J11 := J10.of_kp l1 (by decide)
  rw [Int.zero_add] at l2
  refine x_aload_n (q := 161) dX8_isExchanged_160 rfl rfl ?_
  refine c_get (q := 164) (k := 0) (f := 8) hM rfl xclX8 fwX8_64 (by decide) dX8_isExchanged_161 rfl rfl ?_
  refine x_aload_n (q := 165) dX8_isExchanged_164 rfl rfl ?_
  refine c_get (q := 168) (k := 0) (f := 7) hM rfl xclX8 fwX8_57 (by decide) dX8_isExchanged_165 rfl rfl ?_
  refine c_get (q := 171) (k := 8) (f := 1) hM rfl xclX6 fwX8_177 (by decide) dX8_isExchanged_168 rfl rfl ?_
  refine c_call (q := 174) (k := 159) (As := [_]) hM (cE_big _ _ ⟨by decide, by decide⟩) imX2_isSame ivX2_isSame ilX2_isSame mwX8_210 xciX2 dX8_isExchanged_171 rfl rfl rfl (Nat.le_of_ble_eq_true rfl) ?_
  refine (b_isSame G l ad F R (d + 4) σ157 159 172 ⟨by decide, by decide⟩ ⟨by decide, by decide⟩ _ _ l2 (l1.bg (by decide) (by decide) (k1.bg (by decide) (by decide) j2))).mono (fun x9 σ9' hp => ?_)
  obtain ⟨rfl, e9⟩ := hp
  intro M N S hM
  rw [e9] at hM; clear e9 σ9'
  show xX G l _ (d + 6) _ _ _ _ M N S
  exact x_zret rfl (bI_n _) dX8_isExchanged_174 (c_ret hM ⟨rfl, J11, by rw [l1 0 (by decide), k1 0 (by decide), j1 0 (by decide), i1 0 (by decide), e87, mu_s]⟩)

end XE6
