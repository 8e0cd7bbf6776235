section XD5
/-- the values one behind the other, and the areas that they make -/
def aS (f : Nat → Nat → Int) (Lf : Nat → Nat) (v0 : Int) : Nat → Int × Int × Int × Int
  | 0 => (v0, 0, 0, 1)
  | n + 1 => (f (n / 5) (n % 5), if n % 5 = 0 then (aS f Lf v0 n).2 else jnP ((Lf (n / 5) : Nat) : Int) (aS f Lf v0 n).1 (f (n / 5) (n % 5)) (aS f Lf v0 n).2)
theorem aS_s {f : Nat → Nat → Int} {Lf : Nat → Nat} {v0 : Int} {k q : Nat} (hq : q < 5) : aS f Lf v0 (5 * k + q + 1) = (f k q, if q = 0 then (aS f Lf v0 (5 * k + q)).2 else jnP ((Lf k : Nat) : Int) (aS f Lf v0 (5 * k + q)).1 (f k q) (aS f Lf v0 (5 * k + q)).2) := by
  show (_, _) = _
  rw [show (5 * k + q) / 5 = k by omega, show (5 * k + q) % 5 = q by omega]
theorem Bg.sgn {σ σ' : cZ} {b : Nat} {z τ : Int} (h : Bg σ b z) (hτ : τ = 1 ∨ τ = -1) (k : kp [b] σ σ') (e : (σ' b).1 = mu (σ b).1 0 (sg z * iI τ)) (e2 : (σ' b).2 = (σ b).2) : Bg σ' b (z * τ) := by
  obtain ⟨n, h1, h2, h3, h4, h5⟩ := h
  have hab : (z * τ).natAbs = z.natAbs := by rcases hτ with rfl | rfl <;> omega
  refine ⟨n, by rw [hab]; exact h1, by rw [e2]; exact h2, ?_, by rw [e, mu_n (by decide)]; exact h4, fun j hj => by rw [k _ (by simp), hab]; exact h5 j hj⟩
  rw [e, mu_s]
  rcases hτ with rfl | rfl
  · rw [Int.mul_one]; exact Int32.mul_one _
  · rw [← sg_mulQ]; rfl
theorem Pb.put {σ σ' : cZ} {w k q i j : Nat} {lf : Nat → Int} {gn wh : Int} {as : Nat → Bool} (h : Pb σ 5 w k q lf gn wh as) (kk : kp [5, 20 + 3 * 5] σ σ') (e : (σ' 5).1 = mu (mu (σ 5).1 9 (nI i)) 10 (nI j)) (e2 : (σ' 5).2 = (σ 5).2) : Pb σ' 5 w k q lf gn wh as := by
  obtain ⟨⟨h1, h2, h3⟩, h4, h5, h6, h7⟩ := h
  refine ⟨⟨by rw [e, mu_n (by decide), mu_n (by decide)]; exact h1, by rw [e, mu_n (by decide), mu_n (by decide)]; exact h2, by rw [e, mu_n (by decide), mu_n (by decide)]; exact h3⟩, by rw [e2]; exact h4, by rw [e2]; exact h5, fun s hs => by rw [kk _ (by decide)]; exact h6 s hs, fun hw s hs => by rw [kk _ (by decide)]; exact h7 hw s hs⟩

set_option maxRecDepth 100000 in
set_option maxHeartbeats 4000000 in
theorem b_areas (G : xG) (l : Launch) (ad : Nat → Nat) (F : xM) (R : Nat × Nat) (d : Nat) (σ : cZ) (c : mCf) (hc : Bm σ 1 c) (hok : okL c) (hfo : frOk c) (hF : Fk σ c) (w k q : Nat) (lf : Nat → Int) (gn wh : Int) (as : Nat → Bool) (hr : okRow c (w, k, q)) (hP : Pb σ 5 w k q lf gn wh as) (hsl : sm3 lf) (hg : gn.natAbs ≤ 3000000000) (hwh : wh.natAbs ≤ 3000000000) (τ : Int) (hτ : τ = 1 ∨ τ = -1) (v0 : Int) (hv0 : Bg σ 163 v0) (bv0 : v0.natAbs < B9 ^ 39) (hdv : DvOk σ 9) : cC G l ad F R YX0_measure (d + 6) [.ref (ad 7), .ref (ad 5), .ref (ad 1), .int (iI τ), .ref (ad 8)] σ (fun r σ' => r = none ∧ kp [5, 35, 157, 257, 160, 260, 162, 262, 163, 263, 9, 174, 274, 175, 275, 176, 276, 164, 264, 165, 265, 166, 266, 167, 267, 168, 268, 169, 269, 170, 270, 171, 271, 172, 272] σ σ' ∧ DvOk σ' 9 ∧ (∃ v, Bg σ' 163 v ∧ v.natAbs < B9 ^ 39) ∧ Bg σ' 171 ((aS (fun k' q' => meP c lf gn (owP c w k q k' q' as) k' q' * τ) c.L v0 (5 * c.m)).2.1 * (aS (fun k' q' => meP c lf gn (owP c w k q k' q' as) k' q' * τ) c.L v0 (5 * c.m)).2.2.2 + (aS (fun k' q' => meP c lf gn (owP c w k q k' q' as) k' q' * τ) c.L v0 (5 * c.m)).2.2.1) ∧ Bg σ' 172 ((swP c 10).2.1 * wh * (aS (fun k' q' => meP c lf gn (owP c w k q k' q' as) k' q' * τ) c.L v0 (5 * c.m)).2.2.2 * 8)) := by
  have hm := hok.1
  have hbd := (hfo 10 (Nat.le_refl _)).2
  have bf : ∀ k' q', k' < c.m → q' ≤ 4 → ((fun k' q' => meP c lf gn (owP c w k q k' q' as) k' q' * τ) k' q').natAbs < B9 ^ 39 := fun k' q' h1 h2 => by
    have hrs : sm3 (shP c k' q' (fun _ => 0)) := fun s _ => Nat.le_trans (shP_le hok h1 h2 s) (by decide)
    have h3 := me_lt hfo (lf := lf) (gn := gn) (i := k') (j := q') hsl hrs hg (owP_le hok hr h1 h2 as)
    show (meP c lf gn (owP c w k q k' q' as) k' q' * τ).natAbs < _
    rw [show (meP c lf gn (owP c w k q k' q' as) k' q' * τ).natAbs = (meP c lf gn (owP c w k q k' q' as) k' q').natAbs by rcases hτ with rfl | rfl <;> omega]
    exact h3
  have bL : ∀ k', k' < c.m → (((c.L k' : Nat) : Int)).natAbs ≤ 12 := fun k' h => by rw [Int.natAbs_natCast]; exact (hok.2 k' (by clear hbd hg hwh bv0; omega)).1.2
  have bA : ∀ n, n ≤ 5 * c.m → (aS (fun k' q' => meP c lf gn (owP c w k q k' q' as) k' q' * τ) c.L v0 n).1.natAbs < B9 ^ 39 ∧ acc2 (aS (fun k' q' => meP c lf gn (owP c w k q k' q' as) k' q' * τ) c.L v0 n).2 (4 * (n / 5) + (n % 5 - 1)) := by
    intro n
    induction n with
    | zero => exact fun _ => ⟨bv0, by show (0 : Int).natAbs < _; rw [Int.natAbs_zero]; exact B9_pos _, by show (0 : Int).natAbs < _; rw [Int.natAbs_zero]; exact B9_pos _, by show (1 : Int).natAbs < B9 ^ 1; decide⟩
    | succ n ih =>
      intro hn
      have h1 := ih (by clear hbd hg hwh bv0; omega)
      have h2 := bf (n / 5) (n % 5) (by clear hbd hg hwh bv0; omega) (by clear hbd hg hwh bv0; omega)
      refine ⟨h2, ?_⟩
      show acc2 (if n % 5 = 0 then _ else _) _
      split
      · rename_i h0
        obtain ⟨a1, a2, a3⟩ := h1.2
        exact ⟨B9up a1 (by clear a1 a2 a3 hbd hg hwh bv0 h2; omega), B9up a2 (by clear a1 a2 a3 hbd hg hwh bv0 h2; omega), B9up a3 (by clear a1 a2 a3 hbd hg hwh bv0 h2; omega)⟩
      · rename_i h0
        have h3 := h1.2.jn (s := ((c.L (n / 5) : Nat) : Int)) h1.1 h2 (Nat.lt_of_le_of_lt (bL _ (by clear hbd hg hwh bv0; omega)) (by decide))
        obtain ⟨a1, a2, a3⟩ := h3
        exact ⟨B9up a1 (by clear a1 a2 a3 hbd hg hwh bv0 h2; omega), B9up a2 (by clear a1 a2 a3 hbd hg hwh bv0 h2; omega), B9up a3 (by clear a1 a2 a3 hbd hg hwh bv0 h2; omega)⟩
  have fin : ∀ (σ1 : cZ) (M : xM) (N S : Nat), kp [5, 35, 157, 257, 160, 260, 162, 262, 163, 263, 9, 174, 274, 175, 275, 176, 276, 164, 264, 165, 265, 166, 266, 167, 267, 168, 268, 169, 269, 170, 270] σ σ1 → DvOk σ1 9 → Pb σ1 5 w k q lf gn wh as → Bg σ1 163 (aS (fun k' q' => meP c lf gn (owP c w k q k' q' as) k' q' * τ) c.L v0 (5 * c.m)).1 → Bg σ1 164 (aS (fun k' q' => meP c lf gn (owP c w k q k' q' as) k' q' * τ) c.L v0 (5 * c.m)).2.1 → Bg σ1 165 (aS (fun k' q' => meP c lf gn (owP c w k q k' q' as) k' q' * τ) c.L v0 (5 * c.m)).2.2.1 → Bg σ1 166 (aS (fun k' q' => meP c lf gn (owP c w k q k' q' as) k' q' * τ) c.L v0 (5 * c.m)).2.2.2 → cA G ad F R σ1 M N S → xX G l YX0_measure (d + 6) (cQ G ad F R (fun r σ' => r = none ∧ kp [5, 35, 157, 257, 160, 260, 162, 262, 163, 263, 9, 174, 274, 175, 275, 176, 276, 164, 264, 165, 265, 166, 266, 167, 267, 168, 268, 169, 269, 170, 270, 171, 271, 172, 272] σ σ' ∧ DvOk σ' 9 ∧ (∃ v, Bg σ' 163 v ∧ v.natAbs < B9 ^ 39) ∧ Bg σ' 171 ((aS (fun k' q' => meP c lf gn (owP c w k q k' q' as) k' q' * τ) c.L v0 (5 * c.m)).2.1 * (aS (fun k' q' => meP c lf gn (owP c w k q k' q' as) k' q' * τ) c.L v0 (5 * c.m)).2.2.2 + (aS (fun k' q' => meP c lf gn (owP c w k q k' q' as) k' q' * τ) c.L v0 (5 * c.m)).2.2.1) ∧ Bg σ' 172 ((swP c 10).2.1 * wh * (aS (fun k' q' => meP c lf gn (owP c w k q k' q' as) k' q' * τ) c.L v0 (5 * c.m)).2.2.2 * 8))) 113 [(0, .ref (ad 7)), (1, .ref (ad 5)), (2, .ref (ad 1)), (3, .int (iI τ)), (4, .ref (ad 8))] [] M N S := by
    intro σ1 M N S k1 k2 k3 k4 k5 k6 k7 hM
    have hF1 : Fk σ1 c := hF.of_kp k1 (by decide)
    have hA := bA (5 * c.m) (Nat.le_refl _)
    obtain ⟨a0, a1, a2, a3⟩ := hA
    have e1 : 41 + 2 * (4 * (5 * c.m / 5) + (5 * c.m % 5 - 1)) ≤ 65 := by clear a0 a1 a2 a3 hbd hg hwh bv0; omega
    have e2 : 41 * (4 * (5 * c.m / 5) + (5 * c.m % 5 - 1)) + 120 ≤ 612 := by clear a0 a1 a2 a3 hbd hg hwh bv0; omega
    have e3 : 41 * (4 * (5 * c.m / 5) + (5 * c.m % 5 - 1)) + 1 ≤ 493 := by clear a0 a1 a2 a3 hbd hg hwh bv0; omega
    have b1 := B9up a1 e1
    have b2 := B9up a2 e2
    have b3 := B9up a3 e3
    generalize aS (fun k' q' => meP c lf gn (owP c w k q k' q' as) k' q' * τ) c.L v0 (5 * c.m) = T at *
    have c1 : (T.2.1 * T.2.2.2).natAbs < B9 ^ 1000 := B9up (B9m b1 b3) (by decide)
    have c2 : T.2.2.1.natAbs < B9 ^ 1000 := B9up b2 (by decide)
    have c3 : (swP c 10).2.1.natAbs < B9 ^ 1000 := B9up hbd (by decide)
    have c4 : ((swP c 10).2.1 * wh).natAbs < B9 ^ 14 := B9m hbd (B9_2 hwh)
    have c5 : ((swP c 10).2.1 * wh * T.2.2.2).natAbs < B9 ^ 1000 := B9up (B9m c4 b3) (by decide)
    have x0 : (0 : Int).natAbs < B9 ^ 1000 := by rw [Int.natAbs_zero]; exact B9_pos _

    refine x_aload (q := 115) dX0_measure_113 rfl rfl ?_
    refine c_get (q := 118) (k := 8) (f := 0) hM rfl xclX6 fwX0_82 (by decide) dX0_measure_115 rfl rfl ?_
    refine x_aload_n (q := 119) dX0_measure_118 rfl rfl ?_
    refine c_get (q := 122) (k := 7) (f := 3) hM rfl xclX0 fwX0_28 (by decide) dX0_measure_119 rfl rfl ?_
    refine x_aload_n (q := 123) dX0_measure_122 rfl rfl ?_
    refine c_get (q := 126) (k := 7) (f := 5) hM rfl xclX0 fwX0_34 (by decide) dX0_measure_123 rfl rfl ?_
    refine c_call (q := 129) (k := 171) (As := [_, _]) hM (cE_big _ _ ⟨by decide, by decide⟩) imX2_product ivX2_product ilX2_product mwX0_87 xciX2 dX0_measure_126 rfl rfl rfl (Nat.le_of_ble_eq_true rfl) ?_
    refine (b_product G l ad F R (d + 2) σ1 171 164 166 ⟨by decide, by decide⟩ ⟨by decide, by decide⟩ ⟨by decide, by decide⟩ (by decide) (by decide) _ _ k5 k7 65 493 (by decide) b1 b3).mono (fun x9 σ126 hp => ?_)
    obtain ⟨rfl, q1, q2⟩ := hp
    intro M N S hM
    show xX G l _ (d + 6) _ _ _ _ M N S
    refine x_aload (q := 131) dX0_measure_129 rfl rfl ?_
    refine c_get (q := 134) (k := 8) (f := 0) hM rfl xclX6 fwX0_82 (by decide) dX0_measure_131 rfl rfl ?_
    refine x_aload_n (q := 135) dX0_measure_134 rfl rfl ?_
    refine c_get (q := 138) (k := 7) (f := 4) hM rfl xclX0 fwX0_31 (by decide) dX0_measure_135 rfl rfl ?_
    refine xn_lconst (q := 139) 1 dX0_measure_138 rfl (by decide) ?_
    refine x_topl (y := iL 1) rfl ?_
    refine c_call (q := 142) (k := 171) (As := [_, _]) hM (cE_big _ _ ⟨by decide, by decide⟩) imX2_addTimes ivX2_addTimes ilX2_addTimes mwX0_91 xciX2 dX0_measure_139 rfl rfl rfl (Nat.le_of_ble_eq_true rfl) ?_
    refine (b_addTimes G l ad F R (d + 2) σ126 171 165 ⟨by decide, by decide⟩ ⟨by decide, by decide⟩ (by decide) _ _ 1 q2 (q1.bg (by decide) (by decide) k6) (by decide) c1 c2).mono (fun x9 σ139 hp => ?_)
    obtain ⟨rfl, q3, q4⟩ := hp
    intro M N S hM
    show xX G l _ (d + 6) _ _ _ _ M N S
    rw [Int.mul_one] at q4
    have hF3 : Fk σ139 c := (hF1.of_kp q1 (by decide)).of_kp q3 (by decide)
    refine x_aload_n (q := 143) dX0_measure_142 rfl rfl ?_
    refine x_aload_n (q := 144) dX0_measure_143 rfl rfl ?_
    refine c_get (q := 147) (k := 7) (f := 8) hM rfl xclX0 fwX0_43 (by decide) dX0_measure_144 rfl rfl ?_
    refine c_call (q := 150) (k := 5) (As := [_]) hM rfl imX5_under ivX5_under ilX5_under mwX0_95 xciX5 dX0_measure_147 rfl rfl rfl (Nat.le_of_ble_eq_true rfl) ?_
    refine (b_under G l ad F R (d + 1) σ139 5 (.inl rfl) 169 ⟨by decide, by decide⟩ (by decide) _ wh hF3.2.2.2.2.2.1 (by rw [q3 5 (by decide), q1 5 (by decide)]; exact k3.2.2.1) hwh c3).mono (fun x9 σ147 hp => ?_)
    obtain ⟨rfl, q5, q6⟩ := hp
    intro M N S hM
    show xX G l _ (d + 6) _ _ _ _ M N S
    refine x_aload_n (q := 151) dX0_measure_150 rfl rfl ?_
    refine c_get (q := 154) (k := 7) (f := 9) hM rfl xclX0 fwX0_46 (by decide) dX0_measure_151 rfl rfl ?_
    refine x_aload_n (q := 155) dX0_measure_154 rfl rfl ?_
    refine c_get (q := 158) (k := 7) (f := 8) hM rfl xclX0 fwX0_43 (by decide) dX0_measure_155 rfl rfl ?_
    refine x_aload_n (q := 159) dX0_measure_158 rfl rfl ?_
    refine c_get (q := 162) (k := 7) (f := 5) hM rfl xclX0 fwX0_34 (by decide) dX0_measure_159 rfl rfl ?_
    refine c_call (q := 165) (k := 170) (As := [_, _]) hM (cE_big _ _ ⟨by decide, by decide⟩) imX2_product ivX2_product ilX2_product mwX0_87 xciX2 dX0_measure_162 rfl rfl rfl (Nat.le_of_ble_eq_true rfl) ?_
    refine (b_product G l ad F R (d + 2) σ147 170 169 166 ⟨by decide, by decide⟩ ⟨by decide, by decide⟩ ⟨by decide, by decide⟩ (by decide) (by decide) _ _ q6 (q5.bg (by decide) (by decide) (q3.bg (by decide) (by decide) (q1.bg (by decide) (by decide) k7))) 14 493 (by decide) c4 b3).mono (fun x9 σ162 hp => ?_)
    obtain ⟨rfl, q7, q8⟩ := hp
    intro M N S hM
    show xX G l _ (d + 6) _ _ _ _ M N S
    refine x_aload (q := 167) dX0_measure_165 rfl rfl ?_
    refine c_get (q := 170) (k := 8) (f := 1) hM rfl xclX6 fwX0_98 (by decide) dX0_measure_167 rfl rfl ?_
    refine xn_lconst (q := 171) 0 dX0_measure_170 rfl (by decide) ?_
    refine x_topl (y := iL 0) rfl ?_
    refine c_call (q := 174) (k := 172) (As := [_]) hM (cE_big _ _ ⟨by decide, by decide⟩) imX2_takeLong ivX2_takeLong ilX2_takeLong mwX0_49 xciX2 dX0_measure_171 rfl rfl rfl (Nat.le_of_ble_eq_true rfl) ?_
    refine (b_takeLong G l ad F R (d + 4) σ162 172 ⟨by decide, by decide⟩ 0 (by decide)).mono (fun x9 σ171 hp => ?_)
    obtain ⟨rfl, q9, q10⟩ := hp
    intro M N S hM
    show xX G l _ (d + 6) _ _ _ _ M N S
    refine x_aload (q := 176) dX0_measure_174 rfl rfl ?_
    refine c_get (q := 179) (k := 8) (f := 1) hM rfl xclX6 fwX0_98 (by decide) dX0_measure_176 rfl rfl ?_
    refine x_aload_n (q := 180) dX0_measure_179 rfl rfl ?_
    refine c_get (q := 183) (k := 7) (f := 9) hM rfl xclX0 fwX0_46 (by decide) dX0_measure_180 rfl rfl ?_
    refine xn_ldc2 (q := 186) 8 dX0_measure_183 rfl cwX0_101 ?_
    refine x_topl (y := iL 8) rfl ?_
    refine c_call (q := 189) (k := 172) (As := [_, _]) hM (cE_big _ _ ⟨by decide, by decide⟩) imX2_addTimes ivX2_addTimes ilX2_addTimes mwX0_91 xciX2 dX0_measure_186 rfl rfl rfl (Nat.le_of_ble_eq_true rfl) ?_
    refine (b_addTimes G l ad F R (d + 2) σ171 172 170 ⟨by decide, by decide⟩ ⟨by decide, by decide⟩ (by decide) 0 _ 8 q10 (q9.bg (by decide) (by decide) q8) (by decide) x0 c5).mono (fun x9 σ186 hp => ?_)
    obtain ⟨rfl, r1, r2⟩ := hp
    intro M N S hM
    show xX G l _ (d + 6) _ _ _ _ M N S
    rw [Int.zero_add] at r2
    have kz : kp [5, 35, 157, 257, 160, 260, 162, 262, 163, 263, 9, 174, 274, 175, 275, 176, 276, 164, 264, 165, 265, 166, 266, 167, 267, 168, 268, 169, 269, 170, 270, 171, 271, 172, 272] σ σ186 := (k1.mono (by decide)).trans ((q1.mono (by decide)).trans ((q3.mono (by decide)).trans ((q5.mono (by decide)).trans ((q7.mono (by decide)).trans ((q9.mono (by decide)).trans (r1.mono (by decide)))))))
    exact x_vret rfl dX0_measure_189 (c_ret hM ⟨rfl, kz, by unfold DvOk; rw [r1 9 (by decide), q9 9 (by decide), q7 9 (by decide), q5 9 (by decide), q3 9 (by decide), q1 9 (by decide)]; exact k2, ⟨T.1, r1.bg (by decide) (by decide) (q9.bg (by decide) (by decide) (q7.bg (by decide) (by decide) (q5.bg (by decide) (by decide) (q3.bg (by decide) (by decide) (q1.bg (by decide) (by decide) k4))))), a0⟩, r1.bg (by decide) (by decide) (q9.bg (by decide) (by decide) (q7.bg (by decide) (by decide) (q5.bg (by decide) (by decide) q4))), r2⟩)

  have outer : ∀ (u i : Nat) (σ1 : cZ) (M : xM) (N S : Nat), i + u = c.m → kp [5, 35, 157, 257, 160, 260, 162, 262, 163, 263, 9, 174, 274, 175, 275, 176, 276, 164, 264, 165, 265, 166, 266, 167, 267, 168, 268, 169, 269, 170, 270] σ σ1 → DvOk σ1 9 → Pb σ1 5 w k q lf gn wh as → Bg σ1 163 (aS (fun k' q' => meP c lf gn (owP c w k q k' q' as) k' q' * τ) c.L v0 (5 * i)).1 → Bg σ1 164 (aS (fun k' q' => meP c lf gn (owP c w k q k' q' as) k' q' * τ) c.L v0 (5 * i)).2.1 → Bg σ1 165 (aS (fun k' q' => meP c lf gn (owP c w k q k' q' as) k' q' * τ) c.L v0 (5 * i)).2.2.1 → Bg σ1 166 (aS (fun k' q' => meP c lf gn (owP c w k q k' q' as) k' q' * τ) c.L v0 (5 * i)).2.2.2 → cA G ad F R σ1 M N S → xX G l YX0_measure (d + 6) (cQ G ad F R (fun r σ' => r = none ∧ kp [5, 35, 157, 257, 160, 260, 162, 262, 163, 263, 9, 174, 274, 175, 275, 176, 276, 164, 264, 165, 265, 166, 266, 167, 267, 168, 268, 169, 269, 170, 270, 171, 271, 172, 272] σ σ' ∧ DvOk σ' 9 ∧ (∃ v, Bg σ' 163 v ∧ v.natAbs < B9 ^ 39) ∧ Bg σ' 171 ((aS (fun k' q' => meP c lf gn (owP c w k q k' q' as) k' q' * τ) c.L v0 (5 * c.m)).2.1 * (aS (fun k' q' => meP c lf gn (owP c w k q k' q' as) k' q' * τ) c.L v0 (5 * c.m)).2.2.2 + (aS (fun k' q' => meP c lf gn (owP c w k q k' q' as) k' q' * τ) c.L v0 (5 * c.m)).2.2.1) ∧ Bg σ' 172 ((swP c 10).2.1 * wh * (aS (fun k' q' => meP c lf gn (owP c w k q k' q' as) k' q' * τ) c.L v0 (5 * c.m)).2.2.2 * 8))) 27 [(0, .ref (ad 7)), (1, .ref (ad 5)), (2, .ref (ad 1)), (3, .int (iI τ)), (4, .ref (ad 8)), (5, .int (nI i))] [] M N S := by
    intro u
    induction u with
    | zero =>
      intro i σ1 M N S hi k1 k2 k3 k4 k5 k6 k7 hM
      have hc1 : Bm σ1 1 c := bmk' hc k1 (by decide)
      obtain rfl : i = c.m := by clear hbd hg hwh bv0; omega
      clear hbd hg hwh bv0

      refine x_iload (q := 29) dX0_measure_27 rfl rfl ?_
      refine x_aload_n (q := 30) dX0_measure_29 rfl rfl ?_
      refine c_get (q := 33) (k := 1) (f := 6) hM rfl xclX1 fwX0_53 (by decide) dX0_measure_30 rfl rfl ?_
      refine x_topi (y := nI c.m) (by exact hc1.2.1) ?_
      refine xn_icmp_ge (q := 36) 113 dX0_measure_33 (by decide) rfl (by omega) (by omega) (fun hc33 => ?_) (fun hc33 => absurd hc33 (by omega))
      refine x_ls (ls' := [(0, _), (1, _), (2, _), (3, _), (4, _)]) [0, 1, 2, 3, 4] rfl ?_
      exact fin σ1 M N S k1 k2 k3 k4 k5 k6 k7 hM

    | succ u ih =>
      intro i σ0 M N S hi k1' k2' k3' k4' k5' k6' k7' hM
      have inner : ∀ (v j : Nat) (σ1 : cZ) (M : xM) (N S : Nat), j + v = 5 → kp [5, 35, 157, 257, 160, 260, 162, 262, 163, 263, 9, 174, 274, 175, 275, 176, 276, 164, 264, 165, 265, 166, 266, 167, 267, 168, 268, 169, 269, 170, 270] σ σ1 → DvOk σ1 9 → Pb σ1 5 w k q lf gn wh as → Bg σ1 163 (aS (fun k' q' => meP c lf gn (owP c w k q k' q' as) k' q' * τ) c.L v0 (5 * i + j)).1 → Bg σ1 164 (aS (fun k' q' => meP c lf gn (owP c w k q k' q' as) k' q' * τ) c.L v0 (5 * i + j)).2.1 → Bg σ1 165 (aS (fun k' q' => meP c lf gn (owP c w k q k' q' as) k' q' * τ) c.L v0 (5 * i + j)).2.2.1 → Bg σ1 166 (aS (fun k' q' => meP c lf gn (owP c w k q k' q' as) k' q' * τ) c.L v0 (5 * i + j)).2.2.2 → cA G ad F R σ1 M N S → xX G l YX0_measure (d + 6) (cQ G ad F R (fun r σ' => r = none ∧ kp [5, 35, 157, 257, 160, 260, 162, 262, 163, 263, 9, 174, 274, 175, 275, 176, 276, 164, 264, 165, 265, 166, 266, 167, 267, 168, 268, 169, 269, 170, 270, 171, 271, 172, 272] σ σ' ∧ DvOk σ' 9 ∧ (∃ v, Bg σ' 163 v ∧ v.natAbs < B9 ^ 39) ∧ Bg σ' 171 ((aS (fun k' q' => meP c lf gn (owP c w k q k' q' as) k' q' * τ) c.L v0 (5 * c.m)).2.1 * (aS (fun k' q' => meP c lf gn (owP c w k q k' q' as) k' q' * τ) c.L v0 (5 * c.m)).2.2.2 + (aS (fun k' q' => meP c lf gn (owP c w k q k' q' as) k' q' * τ) c.L v0 (5 * c.m)).2.2.1) ∧ Bg σ' 172 ((swP c 10).2.1 * wh * (aS (fun k' q' => meP c lf gn (owP c w k q k' q' as) k' q' * τ) c.L v0 (5 * c.m)).2.2.2 * 8))) 39 [(0, .ref (ad 7)), (1, .ref (ad 5)), (2, .ref (ad 1)), (3, .int (iI τ)), (4, .ref (ad 8)), (5, .int (nI i)), (6, .int (nI j))] [] M N S := by
        intro v
        induction v with
        | zero =>
          intro j σ1 M N S hj k1 k2 k3 k4 k5 k6 k7 hM
          obtain rfl : j = 5 := by clear hbd hg hwh bv0; omega
          clear hbd hg hwh bv0
          rw [show 5 * i + 5 = 5 * (i + 1) by omega] at k4 k5 k6 k7

          refine x_iload (q := 41) dX0_measure_39 rfl rfl ?_
          refine xn_iconst (q := 42) 4 dX0_measure_41 rfl (by decide) ?_
          refine xn_icmp_gt (q := 45) 107 dX0_measure_42 (by decide) rfl (by omega) (by omega) (fun hc42 => ?_) (fun hc42 => absurd hc42 (by omega))
          refine xn_iinc (q := 110) (ls' := [(0, _), (1, _), (2, _), (3, _), (4, _), (5, _), (6, _)]) [1, 2, 3, 4, 5, 0, 6] 1 dX0_measure_107 rfl rfl (by decide) (by decide) rfl ?_
          refine x_goto 27 dX0_measure_110 (by decide) ?_
          refine x_ls (ls' := [(0, _), (1, _), (2, _), (3, _), (4, _), (5, _)]) [0, 1, 2, 3, 4, 5] rfl ?_
          exact ih (i + 1) σ1 M N S (by omega) k1 k2 k3 k4 k5 k6 k7 hM

        | succ v ihv =>
          intro j σ1 M N S hj k1 k2 k3 k4 k5 k6 k7 hM
          have hi3 : i < c.m := by clear hbd hg hwh bv0; omega
          have hj4 : j ≤ 4 := by clear hbd hg hwh bv0; omega
          have hA := bA (5 * i + j) (by clear hbd hg hwh bv0; omega)
          have hst := aS_s (f := (fun k' q' => meP c lf gn (owP c w k q k' q' as) k' q' * τ)) (Lf := c.L) (v0 := v0) (k := i) (q := j) (by clear hbd hg hwh bv0; omega)
          have bz := bf i j hi3 hj4
          have h0l := Nat.lt_of_lt_of_le hA.1 (B9_mono (show 39 ≤ 1024 by decide))
          have hjn : 4 * ((5 * i + j) / 5) + ((5 * i + j) % 5 - 1) ≤ 12 := by clear hbd hg hwh bv0 hA bz h0l; omega
          have hLi := bL i hi3
          generalize hT : aS (fun k' q' => meP c lf gn (owP c w k q k' q' as) k' q' * τ) c.L v0 (5 * i + j) = T at *
          generalize 4 * ((5 * i + j) / 5) + ((5 * i + j) % 5 - 1) = jn at *
          clear bA bf bL hbd bv0

          refine x_iload (q := 41) dX0_measure_39 rfl rfl ?_
          refine xn_iconst (q := 42) 4 dX0_measure_41 rfl (by decide) ?_
          refine xn_icmp_gt (q := 45) 107 dX0_measure_42 (by decide) rfl (by omega) (by omega) (fun hc42 => absurd hc42 (by clear hA bz h0l hg hwh hLi; omega)) (fun hc42 => ?_)
          refine x_aload_n (q := 46) dX0_measure_45 rfl rfl ?_
          refine c_get (q := 49) (k := 7) (f := 1) hM rfl xclX0 fwX0_21 (by decide) dX0_measure_46 rfl rfl ?_
          refine x_aload_n (q := 50) dX0_measure_49 rfl rfl ?_
          refine c_get (q := 53) (k := 7) (f := 2) hM rfl xclX0 fwX0_25 (by decide) dX0_measure_50 rfl rfl ?_
          refine c_call (q := 56) (k := 162) (As := [_]) hM (cE_big _ _ ⟨by decide, by decide⟩) imX2_take ivX2_take ilX2_take mwX0_59 xciX2 dX0_measure_53 rfl rfl rfl (Nat.le_of_ble_eq_true rfl) ?_
          refine (b_take G l ad F R (d + 2) σ1 162 163 ⟨by decide, by decide⟩ ⟨by decide, by decide⟩ (by decide) T.1 k4 h0l).mono (fun x9 σ53 hp => ?_)
          obtain ⟨rfl, q1, q2⟩ := hp
          intro M N S hM
          show xX G l _ (d + 6) _ _ _ _ M N S
          have hF53 : Fk σ53 c := (hF.of_kp k1 (by decide)).of_kp q1 (by decide)
          have hc53 : Bm σ53 1 c := bmk' (bmk' hc k1 (by decide)) q1 (by decide)
          refine x_aload_n (q := 57) dX0_measure_56 rfl rfl ?_
          refine x_iload (q := 59) dX0_measure_57 rfl rfl ?_
          refine x_iload (q := 61) dX0_measure_59 rfl rfl ?_
          refine c_call (q := 64) (k := 5) (As := [_, _]) hM rfl imX5_put ivX5_put ilX5_put mwX0_63 xciX5 dX0_measure_61 rfl rfl rfl (Nat.le_of_ble_eq_true rfl) ?_
          refine (b_put G l ad F R (d + 3) σ53 5 (.inl rfl) c hc53 hok hF53.fz i j hi3 hj4).mono (fun x9 σ61 hp => ?_)
          obtain ⟨rfl, r1, r2, r3, r4⟩ := hp
          intro M N S hM
          show xX G l _ (d + 6) _ _ _ _ M N S
          have hF61 : Fk σ61 c := hF53.of_kp r1 (by decide)
          have hc61 : Bm σ61 1 c := bmk' hc53 r1 (by decide)
          have hl61 : Pl σ61 c 5 i j := ⟨by rw [r2, mu_n (by decide), mu_s], by rw [r2, mu_s], r4⟩
          have hp61 := (k3.of_kp q1 (by decide) (by decide) (by decide)).put r1 r2 r3
          refine x_aload_n (q := 65) dX0_measure_64 rfl rfl ?_
          refine x_aload_n (q := 66) dX0_measure_65 rfl rfl ?_
          refine c_get (q := 69) (k := 7) (f := 2) hM rfl xclX0 fwX0_25 (by decide) dX0_measure_66 rfl rfl ?_
          refine c_call (q := 72) (k := 5) (As := [_]) hM rfl imX5_measure ivX5_measure ilX5_measure mwX0_69 xciX5 dX0_measure_69 rfl rfl rfl (Nat.le_of_ble_eq_true rfl) ?_
          refine (b_measure G l ad F R (d + 0) σ61 5 (.inl rfl) 163 (by decide) (by decide) c hc61 hok hfo hF61 w k q i j lf gn wh as hr hp61 hl61 hi3 hj4 hsl hg).mono (fun x9 σ69 hp => ?_)
          obtain ⟨rfl, t1, t2⟩ := hp
          intro M N S hM
          show xX G l _ (d + 6) _ _ _ _ M N S
          have t0 := t2.choose_spec.2.2.1
          refine x_aload_n (q := 73) dX0_measure_72 rfl rfl ?_
          refine c_get (q := 76) (k := 7) (f := 2) hM rfl xclX0 fwX0_25 (by decide) dX0_measure_73 rfl rfl ?_
          refine x_dup (q := 77) dX0_measure_76 rfl rfl ?_
          refine c_getN (q := 80) (k := 163) (f := 0) hM (cE_big _ _ ⟨by decide, by decide⟩) xclX2 fnX0_72 (by decide) dX0_measure_77 rfl rfl ?_
          refine x_topi (y := sg (meP c lf gn (owP c w k q i j as) i j)) (by exact t0) ?_
          refine x_iload_n (q := 81) dX0_measure_80 rfl rfl ?_
          refine x_imul (q := 82) dX0_measure_81 rfl ?_
          refine c_putiN (q := 85) (k := 163) (f := 0) hM (cE_big _ _ ⟨by decide, by decide⟩) (by rw [cE_big _ _ ⟨by decide, by decide⟩, mu_s]; rfl) xclX2 fnX0_72 (by decide) rfl rfl (Nat.le_of_ble_eq_true rfl) dX0_measure_82 rfl rfl rfl (fun M σ82 a82 e82 b82 hM => ?_)
          have kk : kp [5, 35, 157, 257, 160, 260, 162, 262, 163, 263] σ1 σ82 := (q1.mono (by decide)).trans ((r1.mono (by decide)).trans ((t1.mono (by decide)).trans (a82.mono (by decide))))
          have kz82 : kp [5, 35, 157, 257, 160, 260, 162, 262, 163, 263, 9, 174, 274, 175, 275, 176, 276, 164, 264, 165, 265, 166, 266, 167, 267, 168, 268, 169, 269, 170, 270] σ σ82 := k1.trans (kk.mono (by decide))
          have g82 := t2.sgn hτ a82 e82 b82
          have p82 : Pb σ82 5 w k q lf gn wh as := (((k3.of_kp q1 (by decide) (by decide) (by decide)).put r1 r2 r3).of_kp t1 (by decide) (by decide) (by decide)).of_kp a82 (by decide) (by decide) (by decide)
          have b162 : Bg σ82 162 T.1 := a82.bg (by decide) (by decide) (t1.bg (by decide) (by decide) (r1.bg (by decide) (by decide) q2))
          refine x_iload (q := 87) dX0_measure_85 rfl rfl ?_
          refine xn_if_le (q := 90) 101 dX0_measure_87 (by decide) rfl (by omega) (fun hc87 => ?_) (fun hc87 => ?_)
          · refine xn_iinc (q := 104) (ls' := [(0, _), (1, _), (2, _), (3, _), (4, _), (5, _), (6, _)]) [1, 2, 3, 4, 5, 6, 0] 1 dX0_measure_101 rfl rfl (by decide) (by decide) rfl ?_
            refine x_goto 39 dX0_measure_104 (by decide) ?_
            obtain rfl : j = 0 := by clear hA bz h0l hg hwh hLi; omega
            rw [if_pos rfl] at hst
            refine ihv (0 + 1) σ82 M N S (by clear hA bz h0l hg hwh hLi; omega) kz82 (by unfold DvOk; rw [kk 9 (by decide)]; exact k2) p82 ?_ ?_ ?_ ?_ hM
            · rw [show 5 * i + (0 + 1) = 5 * i + 0 + 1 from rfl, hst]; exact g82
            · rw [show 5 * i + (0 + 1) = 5 * i + 0 + 1 from rfl, hst]; exact kk.bg (by decide) (by decide) k5
            · rw [show 5 * i + (0 + 1) = 5 * i + 0 + 1 from rfl, hst]; exact kk.bg (by decide) (by decide) k6
            · rw [show 5 * i + (0 + 1) = 5 * i + 0 + 1 from rfl, hst]; exact kk.bg (by decide) (by decide) k7
          · refine x_aload_n (q := 91) dX0_measure_90 rfl rfl ?_
            refine x_aload_n (q := 92) dX0_measure_91 rfl rfl ?_
            refine c_get (q := 95) (k := 1) (f := 0) hM rfl xclX1 fwX0_75 (by decide) dX0_measure_92 rfl rfl ?_
            refine x_iload (q := 97) dX0_measure_95 rfl rfl ?_
            refine c_lald (q := 98) (k := 14) (n := 3) hM rfl (by decide) (by decide) dX0_measure_97 rfl (by clear hA bz h0l hg hwh hLi; omega) ?_
            refine x_topl (y := iL ((c.L i : Nat) : Int)) (by rw [kz82 14 (by decide), hc.2.2.1 i (by clear hA bz h0l hg hwh hLi; omega), lN_i']) ?_
            refine c_call (q := 101) (k := 7) (As := [_]) hM rfl imX0_join ivX0_join ilX0_join mwX0_79 xciX0 dX0_measure_98 rfl rfl rfl (Nat.le_of_ble_eq_true rfl) ?_
            refine (b_join G l ad F R (d + 0) σ82 T.1 _ _ T.2 jn hjn hA.2 b162 g82 (kk.bg (by decide) (by decide) k5) (kk.bg (by decide) (by decide) k6) (kk.bg (by decide) (by decide) k7) (by unfold DvOk; rw [kk 9 (by decide)]; exact k2) hA.1 bz hLi).mono (fun x9 σ98 hp => ?_)
            obtain ⟨rfl, v1, v2, v3, v4, v5⟩ := hp
            intro M N S hM
            show xX G l _ (d + 6) _ _ _ _ M N S
            refine xn_iinc (q := 104) (ls' := [(0, _), (1, _), (2, _), (3, _), (4, _), (5, _), (6, _)]) [1, 2, 3, 4, 5, 6, 0] 1 dX0_measure_101 rfl rfl (by decide) (by decide) rfl ?_
            refine x_goto 39 dX0_measure_104 (by decide) ?_
            rw [if_neg (by clear hA bz h0l hg hwh hLi; omega)] at hst
            refine ihv (j + 1) σ98 M N S (by clear hA bz h0l hg hwh hLi; omega) (kz82.trans (v1.mono (by decide))) v2 (p82.of_kp v1 (by decide) (by decide) (by decide)) ?_ ?_ ?_ ?_ hM
            · rw [show 5 * i + (j + 1) = 5 * i + j + 1 from rfl, hst]; exact v1.bg (by decide) (by decide) g82
            · rw [show 5 * i + (j + 1) = 5 * i + j + 1 from rfl, hst]; exact v3
            · rw [show 5 * i + (j + 1) = 5 * i + j + 1 from rfl, hst]; exact v4
            · rw [show 5 * i + (j + 1) = 5 * i + j + 1 from rfl, hst]; exact v5

      have hc0 : Bm σ0 1 c := bmk' hc k1' (by decide)
      clear hbd hg hwh bv0

      refine x_iload (q := 29) dX0_measure_27 rfl rfl ?_
      refine x_aload_n (q := 30) dX0_measure_29 rfl rfl ?_
      refine c_get (q := 33) (k := 1) (f := 6) hM rfl xclX1 fwX0_53 (by decide) dX0_measure_30 rfl rfl ?_
      refine x_topi (y := nI c.m) (by exact hc0.2.1) ?_
      refine xn_icmp_ge (q := 36) 113 dX0_measure_33 (by decide) rfl (by omega) (by omega) (fun hc33 => absurd hc33 (by omega)) (fun hc33 => ?_)
      refine xn_iconst (q := 37) 0 dX0_measure_36 rfl (by decide) ?_
      refine x_istore (q := 39) (ls' := [(0, _), (1, _), (2, _), (3, _), (4, _), (5, _), (6, _)]) [1, 2, 3, 4, 5, 6, 0] dX0_measure_37 rfl (by decide) rfl ?_
      exact inner 5 0 σ0 M N S (by decide) k1' k2' k3' k4' k5' k6' k7' hM

  refine cC.of (ls := [(0, .ref (ad 7)), (1, .ref (ad 5)), (2, .ref (ad 1)), (3, .int (iI τ)), (4, .ref (ad 8))]) (by decide) (Nat.le_of_ble_eq_true rfl) rfl fun M N S hM => ?_

  refine x_aload_n (q := 1) dX0_measure_0 rfl rfl ?_
  refine c_get (q := 4) (k := 7) (f := 3) hM rfl xclX0 fwX0_28 (by decide) dX0_measure_1 rfl rfl ?_
  refine xn_lconst (q := 5) 0 dX0_measure_4 rfl (by decide) ?_
  refine x_topl (y := iL 0) rfl ?_
  refine c_call (q := 8) (k := 164) (As := [_]) hM (cE_big _ _ ⟨by decide, by decide⟩) imX2_takeLong ivX2_takeLong ilX2_takeLong mwX0_49 xciX2 dX0_measure_5 rfl rfl rfl (Nat.le_of_ble_eq_true rfl) ?_
  refine (b_takeLong G l ad F R (d + 4) σ 164 ⟨by decide, by decide⟩ 0 (by decide)).mono (fun x9 σ5 hp => ?_)
  obtain ⟨rfl, q1, q2⟩ := hp
  intro M N S hM
  show xX G l _ (d + 6) _ _ _ _ M N S
  refine x_aload_n (q := 9) dX0_measure_8 rfl rfl ?_
  refine c_get (q := 12) (k := 7) (f := 4) hM rfl xclX0 fwX0_31 (by decide) dX0_measure_9 rfl rfl ?_
  refine xn_lconst (q := 13) 0 dX0_measure_12 rfl (by decide) ?_
  refine x_topl (y := iL 0) rfl ?_
  refine c_call (q := 16) (k := 165) (As := [_]) hM (cE_big _ _ ⟨by decide, by decide⟩) imX2_takeLong ivX2_takeLong ilX2_takeLong mwX0_49 xciX2 dX0_measure_13 rfl rfl rfl (Nat.le_of_ble_eq_true rfl) ?_
  refine (b_takeLong G l ad F R (d + 4) σ5 165 ⟨by decide, by decide⟩ 0 (by decide)).mono (fun x9 σ13 hp => ?_)
  obtain ⟨rfl, q3, q4⟩ := hp
  intro M N S hM
  show xX G l _ (d + 6) _ _ _ _ M N S
  refine x_aload_n (q := 17) dX0_measure_16 rfl rfl ?_
  refine c_get (q := 20) (k := 7) (f := 5) hM rfl xclX0 fwX0_34 (by decide) dX0_measure_17 rfl rfl ?_
  refine xn_lconst (q := 21) 1 dX0_measure_20 rfl (by decide) ?_
  refine x_topl (y := iL 1) rfl ?_
  refine c_call (q := 24) (k := 166) (As := [_]) hM (cE_big _ _ ⟨by decide, by decide⟩) imX2_takeLong ivX2_takeLong ilX2_takeLong mwX0_49 xciX2 dX0_measure_21 rfl rfl rfl (Nat.le_of_ble_eq_true rfl) ?_
  refine (b_takeLong G l ad F R (d + 4) σ13 166 ⟨by decide, by decide⟩ 1 (by decide)).mono (fun x9 σ21 hp => ?_)
  obtain ⟨rfl, q5, q6⟩ := hp
  intro M N S hM
  show xX G l _ (d + 6) _ _ _ _ M N S
  refine xn_iconst (q := 25) 0 dX0_measure_24 rfl (by decide) ?_
  refine x_istore (q := 27) (ls' := [(0, _), (1, _), (2, _), (3, _), (4, _), (5, _)]) [1, 2, 3, 4, 5, 0] dX0_measure_25 rfl (by decide) rfl ?_
  exact outer c.m 0 σ21 M N S (by clear hbd hg hwh bv0; omega) ((q1.mono (by decide)).trans ((q3.mono (by decide)).trans (q5.mono (by decide)))) (by unfold DvOk; rw [q5 9 (by decide), q3 9 (by decide), q1 9 (by decide)]; exact hdv) (((hP.of_kp q1 (by decide) (by decide) (by decide)).of_kp q3 (by decide) (by decide) (by decide)).of_kp q5 (by decide) (by decide) (by decide)) (q5.bg (by decide) (by decide) (q3.bg (by decide) (by decide) (q1.bg (by decide) (by decide) hv0))) (q5.bg (by decide) (by decide) (q3.bg (by decide) (by decide) q2)) (q5.bg (by decide) (by decide) q4) q6 hM

end XD5
