section XD4
/-- a crossing's share: above, below -/
def crP (s a b : Int) (t : Int × Int × Int) : Int × Int × Int := (t.1, t.2.1 * (a - b).tdiv ((Nat.gcd a.natAbs b.natAbs : Nat) : Int) + (a.tdiv ((Nat.gcd a.natAbs b.natAbs : Nat) : Int) * a.tdiv ((Nat.gcd a.natAbs b.natAbs : Nat) : Int) * ((Nat.gcd a.natAbs b.natAbs : Nat) : Int) * t.2.2) * s, t.2.2 * (a - b).tdiv ((Nat.gcd a.natAbs b.natAbs : Nat) : Int))
def jnP (s x y : Int) (t : Int × Int × Int) : Int × Int × Int := if 0 ≤ x ∧ 0 ≤ y then (t.1 + x * s + y * s, t.2) else if 0 ≤ x.sign * y.sign then t else if 0 < x then crP s x y t else crP s y x t
def acc2 (t : Int × Int × Int) (j : Nat) : Prop := t.1.natAbs < B9 ^ (41 + 2 * j) ∧ t.2.1.natAbs < B9 ^ (41 * j + 120) ∧ t.2.2.natAbs < B9 ^ (41 * j + 1)
theorem tdiv_lt {a b : Int} {n : Nat} (h : a.natAbs < B9 ^ n) : (a.tdiv b).natAbs < B9 ^ n := by
  rw [Int.natAbs_tdiv]
  exact Nat.lt_of_le_of_lt (Nat.div_le_self _ _) h
theorem gcd_lt9 {a b : Int} {n : Nat} (ha : a.natAbs < B9 ^ n) (hb : b.natAbs < B9 ^ n) : (((Nat.gcd a.natAbs b.natAbs : Nat) : Int)).natAbs < B9 ^ n := by
  rw [Int.natAbs_natCast]
  exact gcd_lt ha hb
theorem acc2.cr {t : Int × Int × Int} {j : Nat} (h : acc2 t j) {s a b : Int} (ha : a.natAbs < B9 ^ 39) (hb : b.natAbs < B9 ^ 39) (hs : s.natAbs < B9 ^ 1) : acc2 (crP s a b t) (j + 1) := by
  have hg := gcd_lt9 ha hb
  have hd : ((a - b).tdiv ((Nat.gcd a.natAbs b.natAbs : Nat) : Int)).natAbs < B9 ^ 40 := tdiv_lt (B9s ha hb)
  have hp : (a.tdiv ((Nat.gcd a.natAbs b.natAbs : Nat) : Int)).natAbs < B9 ^ 39 := tdiv_lt ha
  refine ⟨B9up h.1 (by omega), ?_, B9up (B9m h.2.2 hd) (by omega)⟩
  have e1 := B9m h.2.1 hd
  have e2 := B9m (B9m (B9m (B9m hp hp) hg) h.2.2) hs
  exact B9up (B9a (B9up e1 (show 41 * j + 120 + 40 ≤ 41 * j + 160 by omega)) (B9up e2 (show 39 + 39 + 39 + (41 * j + 1) + 1 ≤ 41 * j + 160 by omega))) (by omega)
theorem acc2.jn {t : Int × Int × Int} {j : Nat} (h : acc2 t j) {s x y : Int} (hx : x.natAbs < B9 ^ 39) (hy : y.natAbs < B9 ^ 39) (hs : s.natAbs < B9 ^ 1) : acc2 (jnP s x y t) (j + 1) := by
  unfold jnP
  split
  · have e1 := B9a (B9up h.1 (show 41 + 2 * j ≤ 41 + 2 * j by omega)) (B9up (B9m hx hs) (show 39 + 1 ≤ 41 + 2 * j by omega))
    have e2 := B9a e1 (B9up (B9m hy hs) (show 39 + 1 ≤ 41 + 2 * j + 1 by omega))
    exact ⟨B9up e2 (by omega), B9up h.2.1 (by omega), B9up h.2.2 (by omega)⟩
  · split
    · exact ⟨B9up h.1 (by omega), B9up h.2.1 (by omega), B9up h.2.2 (by omega)⟩
    · split
      · exact h.cr hx hy hs
      · exact h.cr hy hx hs

set_option maxRecDepth 100000 in
set_option maxHeartbeats 4000000 in
theorem b_join (G : xG) (l : Launch) (ad : Nat → Nat) (F : xM) (R : Nat × Nat) (d : Nat) (σ : cZ) (x y s : Int) (t : Int × Int × Int) (j : Nat) (hj : j ≤ 12) (hacc : acc2 t j) (hx : Bg σ 162 x) (hy : Bg σ 163 y) (hW : Bg σ 164 t.1) (hU : Bg σ 165 t.2.1) (hL : Bg σ 166 t.2.2) (hdv : DvOk σ 9) (bx : x.natAbs < B9 ^ 39) (bY : y.natAbs < B9 ^ 39) (hs : s.natAbs ≤ 12) : cC G l ad F R YX0_join (d + 5) [.ref (ad 7), .long (iL s)] σ (fun r σ' => r = none ∧ kp [9, 174, 274, 175, 275, 176, 276, 164, 264, 165, 265, 166, 266, 167, 267, 168, 268, 169, 269, 170, 270] σ σ' ∧ DvOk σ' 9 ∧ Bg σ' 164 (jnP s x y t).1 ∧ Bg σ' 165 (jnP s x y t).2.1 ∧ Bg σ' 166 (jnP s x y t).2.2) := by
  have s109 : ∀ (ia ib : Nat) (a b : Int) (M : xM) (N S : Nat), (ia = 162 ∧ ib = 163 ∨ ia = 163 ∧ ib = 162) → Bg σ ia a → Bg σ ib b → a.natAbs < B9 ^ 39 → b.natAbs < B9 ^ 39 → jnP s x y t = crP s a b t → cA G ad F R σ M N S → xX G l YX0_join (d + 5) (cQ G ad F R (fun r σ' => r = none ∧ kp [9, 174, 274, 175, 275, 176, 276, 164, 264, 165, 265, 166, 266, 167, 267, 168, 268, 169, 269, 170, 270] σ σ' ∧ DvOk σ' 9 ∧ Bg σ' 164 (jnP s x y t).1 ∧ Bg σ' 165 (jnP s x y t).2.1 ∧ Bg σ' 166 (jnP s x y t).2.2)) 109 [(0, .ref (ad 7)), (1, .long (iL s)), (3, .ref (ad ia)), (4, .ref (ad ib))] [] M N S := by
    intro ia ib a b M N S hd ha hb ba bb he hM
    have hia : isBg ia := by rcases hd with ⟨rfl, rfl⟩ | ⟨rfl, rfl⟩ <;> exact ⟨by decide, by decide⟩
    have hib : isBg ib := by rcases hd with ⟨rfl, rfl⟩ | ⟨rfl, rfl⟩ <;> exact ⟨by decide, by decide⟩
    have hg := gcd_lt9 ba bb
    have hpk : (a.tdiv ((Nat.gcd a.natAbs b.natAbs : Nat) : Int)).natAbs < B9 ^ 39 := tdiv_lt ba
    have hab : (a - b).natAbs < B9 ^ 40 := B9s ba bb
    have hdr : ((a - b).tdiv ((Nat.gcd a.natAbs b.natAbs : Nat) : Int)).natAbs < B9 ^ 40 := tdiv_lt hab
    have z1 : a.natAbs < B9 ^ 1000 := B9up ba (by decide)
    have z2 : b.natAbs < B9 ^ 1000 := B9up bb (by decide)
    have z3 : (a - b).natAbs < B9 ^ 1000 := B9up hab (by decide)
    have z4 : a.natAbs < B9 ^ 1024 := B9up ba (by decide)
    have z5 := B9m hpk hpk
    have z6 := B9m z5 hg
    have z7 := B9m z6 hacc.2.2
    have z8 : (a.tdiv ((Nat.gcd a.natAbs b.natAbs : Nat) : Int) * a.tdiv ((Nat.gcd a.natAbs b.natAbs : Nat) : Int) * ((Nat.gcd a.natAbs b.natAbs : Nat) : Int) * t.2.2).natAbs < B9 ^ 1000 := B9up z7 (by clear z1 z2 z3 z4 z5 z6 z7 hg hpk hab hdr ba bb bx bY hs hacc; omega)
    have z9 : (t.2.1 * (a - b).tdiv ((Nat.gcd a.natAbs b.natAbs : Nat) : Int)).natAbs < B9 ^ 1000 := B9up (B9m hacc.2.1 hdr) (by clear z1 z2 z3 z4 z5 z6 z7 z8 hg hpk hab hdr ba bb bx bY hs hacc; omega)
    have hcr := hacc.cr ba bb (s := s) (Nat.lt_of_le_of_lt hs (by decide))
    have z10 : (t.2.1 * (a - b).tdiv ((Nat.gcd a.natAbs b.natAbs : Nat) : Int) + a.tdiv ((Nat.gcd a.natAbs b.natAbs : Nat) : Int) * a.tdiv ((Nat.gcd a.natAbs b.natAbs : Nat) : Int) * ((Nat.gcd a.natAbs b.natAbs : Nat) : Int) * t.2.2 * s).natAbs < B9 ^ 1024 := B9up hcr.2.1 (by clear z1 z2 z3 z4 z5 z6 z7 z8 z9 hg hpk hab hdr ba bb bx bY hs hacc hcr; omega)
    have z11 : (t.2.2 * (a - b).tdiv ((Nat.gcd a.natAbs b.natAbs : Nat) : Int)).natAbs < B9 ^ 1024 := B9up hcr.2.2 (by clear z1 z2 z3 z4 z5 z6 z7 z8 z9 z10 hg hpk hab hdr ba bb bx bY hs hacc hcr; omega)
    have hs9 : s.natAbs ≤ 3000000000 := Nat.le_trans hs (by decide)
    have q1 : 39 + 39 + 39 + (41 * j + 1) ≤ 1024 := by clear z1 z2 z3 z4 z5 z6 z7 z8 z9 z10 z11 hg hpk hab hdr ba bb bx bY hs hs9 hacc hcr; omega
    have q2 : 41 * j + 120 + 40 ≤ 1024 := by clear z1 z2 z3 z4 z5 z6 z7 z8 z9 z10 z11 hg hpk hab hdr ba bb bx bY hs hs9 hacc hcr; omega
    have q3 : 41 * j + 1 + 40 ≤ 1024 := by clear z1 z2 z3 z4 z5 z6 z7 z8 z9 z10 z11 hg hpk hab hdr ba bb bx bY hs hs9 hacc hcr; omega

    refine x_aload_n (q := 110) dX0_join_109 rfl rfl ?_
    refine c_get (q := 113) (k := 7) (f := 0) hM rfl xclX0 fwX0_12 (by decide) dX0_join_110 rfl rfl ?_
    refine x_aload_n (q := 114) dX0_join_113 rfl rfl ?_
    refine x_aload (q := 116) dX0_join_114 rfl rfl ?_
    refine c_call (q := 119) (k := 9) (As := [_, _]) hM rfl imX3_of ivX3_of ilX3_of mwX0_103 xciX3 dX0_join_116 rfl rfl rfl (Nat.le_of_ble_eq_true rfl) ?_
    refine (b_of G l ad F R (d + 0) σ 9 ia ib (.inl rfl) hia hib (by rcases hd with ⟨rfl, rfl⟩ | ⟨rfl, rfl⟩ <;> decide) (by rcases hd with ⟨rfl, rfl⟩ | ⟨rfl, rfl⟩ <;> decide) a b ha hb z1 z2 hdv).mono (fun x9 σ116 hp => ?_)
    obtain ⟨o1, o2, p, hp', rfl, o3⟩ := hp
    intro M N S hM
    show xX G l _ (d + 5) _ _ _ _ M N S
    have hp' : p = 175 ∨ p = 176 := hp'
    have hpb : isBg p := by rcases hp' with rfl | rfl <;> exact ⟨by decide, by decide⟩
    refine x_astore (q := 121) (ls' := [(0, _), (1, _), (3, _), (4, _), (5, _)]) [1, 2, 3, 4, 0] dX0_join_119 rfl (by decide) rfl ?_
    refine x_aload_n (q := 122) dX0_join_121 rfl rfl ?_
    refine c_get (q := 125) (k := 7) (f := 8) hM rfl xclX0 fwX0_43 (by decide) dX0_join_122 rfl rfl ?_
    refine x_aload_n (q := 126) dX0_join_125 rfl rfl ?_
    refine c_call (q := 129) (k := 169) (As := [_]) hM (cE_big _ _ ⟨by decide, by decide⟩) imX2_take ivX2_take ilX2_take mwX0_59 xciX2 dX0_join_126 rfl rfl rfl (Nat.le_of_ble_eq_true rfl) ?_
    refine (b_take G l ad F R (d + 1) σ116 169 ia ⟨by decide, by decide⟩ hia (by rcases hd with ⟨rfl, rfl⟩ | ⟨rfl, rfl⟩ <;> decide) a (o1.bg (by rcases hd with ⟨rfl, rfl⟩ | ⟨rfl, rfl⟩ <;> decide) (by rcases hd with ⟨rfl, rfl⟩ | ⟨rfl, rfl⟩ <;> decide) ha) z4).mono (fun x9 σ126 hp => ?_)
    obtain ⟨rfl, k126, r126⟩ := hp
    intro M N S hM
    show xX G l _ (d + 5) _ _ _ _ M N S
    refine x_aload_n (q := 130) dX0_join_129 rfl rfl ?_
    refine c_get (q := 133) (k := 7) (f := 8) hM rfl xclX0 fwX0_43 (by decide) dX0_join_130 rfl rfl ?_
    refine x_aload (q := 135) dX0_join_133 rfl rfl ?_
    refine x_aload_n (q := 136) dX0_join_135 rfl rfl ?_
    refine c_get (q := 139) (k := 7) (f := 6) hM rfl xclX0 fwX0_37 (by decide) dX0_join_136 rfl rfl ?_
    refine c_call (q := 142) (k := 169) (As := [_, _]) hM (cE_big _ _ ⟨by decide, by decide⟩) imX2_split ivX2_split ilX2_split mwX0_107 xciX2 dX0_join_139 rfl rfl rfl (Nat.le_of_ble_eq_true rfl) ?_
    refine (b_split G l ad F R (d + 1) σ126 169 p 167 ⟨by decide, by decide⟩ hpb ⟨by decide, by decide⟩ (by rcases hp' with rfl | rfl <;> decide) (by decide) (by rcases hp' with rfl | rfl <;> decide) a _ r126 (k126.bg (by rcases hp' with rfl | rfl <;> decide) (by rcases hp' with rfl | rfl <;> decide) o3) z1).mono (fun x9 σ139 hp => ?_)
    obtain ⟨rfl, k139, r139a, r139⟩ := hp
    intro M N S hM
    show xX G l _ (d + 5) _ _ _ _ M N S
    refine x_aload_n (q := 143) dX0_join_142 rfl rfl ?_
    refine c_get (q := 146) (k := 7) (f := 8) hM rfl xclX0 fwX0_43 (by decide) dX0_join_143 rfl rfl ?_
    refine x_aload_n (q := 147) dX0_join_146 rfl rfl ?_
    refine c_call (q := 150) (k := 169) (As := [_]) hM (cE_big _ _ ⟨by decide, by decide⟩) imX2_take ivX2_take ilX2_take mwX0_59 xciX2 dX0_join_147 rfl rfl rfl (Nat.le_of_ble_eq_true rfl) ?_
    refine (b_take G l ad F R (d + 1) σ139 169 ia ⟨by decide, by decide⟩ hia (by rcases hd with ⟨rfl, rfl⟩ | ⟨rfl, rfl⟩ <;> decide) a (k139.bg (by rcases hd with ⟨rfl, rfl⟩ | ⟨rfl, rfl⟩ <;> decide) (by rcases hd with ⟨rfl, rfl⟩ | ⟨rfl, rfl⟩ <;> decide) (k126.bg (by rcases hd with ⟨rfl, rfl⟩ | ⟨rfl, rfl⟩ <;> decide) (by rcases hd with ⟨rfl, rfl⟩ | ⟨rfl, rfl⟩ <;> decide) (o1.bg (by rcases hd with ⟨rfl, rfl⟩ | ⟨rfl, rfl⟩ <;> decide) (by rcases hd with ⟨rfl, rfl⟩ | ⟨rfl, rfl⟩ <;> decide) ha))) z4).mono (fun x9 σ147 hp => ?_)
    obtain ⟨rfl, k147, r147⟩ := hp
    intro M N S hM
    show xX G l _ (d + 5) _ _ _ _ M N S
    refine x_aload_n (q := 151) dX0_join_150 rfl rfl ?_
    refine c_get (q := 154) (k := 7) (f := 8) hM rfl xclX0 fwX0_43 (by decide) dX0_join_151 rfl rfl ?_
    refine x_aload (q := 156) dX0_join_154 rfl rfl ?_
    refine x_ldc2 (q := 159) (-1) dX0_join_156 rfl cwX0_110 ?_
    refine x_topl (y := iL (-1)) (by decide) ?_
    refine c_call (q := 162) (k := 169) (As := [_, _]) hM (cE_big _ _ ⟨by decide, by decide⟩) imX2_addTimes ivX2_addTimes ilX2_addTimes mwX0_91 xciX2 dX0_join_159 rfl rfl rfl (Nat.le_of_ble_eq_true rfl) ?_
    refine (b_addTimes G l ad F R (d + 1) σ147 169 ib ⟨by decide, by decide⟩ hib (by rcases hd with ⟨rfl, rfl⟩ | ⟨rfl, rfl⟩ <;> decide) a b (-1) r147 (k147.bg (by rcases hd with ⟨rfl, rfl⟩ | ⟨rfl, rfl⟩ <;> decide) (by rcases hd with ⟨rfl, rfl⟩ | ⟨rfl, rfl⟩ <;> decide) (k139.bg (by rcases hd with ⟨rfl, rfl⟩ | ⟨rfl, rfl⟩ <;> decide) (by rcases hd with ⟨rfl, rfl⟩ | ⟨rfl, rfl⟩ <;> decide) (k126.bg (by rcases hd with ⟨rfl, rfl⟩ | ⟨rfl, rfl⟩ <;> decide) (by rcases hd with ⟨rfl, rfl⟩ | ⟨rfl, rfl⟩ <;> decide) (o1.bg (by rcases hd with ⟨rfl, rfl⟩ | ⟨rfl, rfl⟩ <;> decide) (by rcases hd with ⟨rfl, rfl⟩ | ⟨rfl, rfl⟩ <;> decide) hb)))) (by decide) z1 z2).mono (fun x9 σ159 hp => ?_)
    obtain ⟨rfl, k159, r159⟩ := hp
    intro M N S hM
    show xX G l _ (d + 5) _ _ _ _ M N S
    rw [mul_m1] at r159
    refine x_aload_n (q := 163) dX0_join_162 rfl rfl ?_
    refine c_get (q := 166) (k := 7) (f := 8) hM rfl xclX0 fwX0_43 (by decide) dX0_join_163 rfl rfl ?_
    refine x_aload (q := 168) dX0_join_166 rfl rfl ?_
    refine x_aload_n (q := 169) dX0_join_168 rfl rfl ?_
    refine c_get (q := 172) (k := 7) (f := 7) hM rfl xclX0 fwX0_40 (by decide) dX0_join_169 rfl rfl ?_
    refine c_call (q := 175) (k := 169) (As := [_, _]) hM (cE_big _ _ ⟨by decide, by decide⟩) imX2_split ivX2_split ilX2_split mwX0_107 xciX2 dX0_join_172 rfl rfl rfl (Nat.le_of_ble_eq_true rfl) ?_
    refine (b_split G l ad F R (d + 1) σ159 169 p 168 ⟨by decide, by decide⟩ hpb ⟨by decide, by decide⟩ (by rcases hp' with rfl | rfl <;> decide) (by decide) (by rcases hp' with rfl | rfl <;> decide) (a - b) _ r159 (k159.bg (by rcases hp' with rfl | rfl <;> decide) (by rcases hp' with rfl | rfl <;> decide) (k147.bg (by rcases hp' with rfl | rfl <;> decide) (by rcases hp' with rfl | rfl <;> decide) (k139.bg (by rcases hp' with rfl | rfl <;> decide) (by rcases hp' with rfl | rfl <;> decide) (k126.bg (by rcases hp' with rfl | rfl <;> decide) (by rcases hp' with rfl | rfl <;> decide) o3)))) z3).mono (fun x9 σ172 hp => ?_)
    obtain ⟨rfl, k172, r172a, r172⟩ := hp
    intro M N S hM
    show xX G l _ (d + 5) _ _ _ _ M N S
    refine x_aload_n (q := 176) dX0_join_175 rfl rfl ?_
    refine c_get (q := 179) (k := 7) (f := 8) hM rfl xclX0 fwX0_43 (by decide) dX0_join_176 rfl rfl ?_
    refine x_aload_n (q := 180) dX0_join_179 rfl rfl ?_
    refine c_get (q := 183) (k := 7) (f := 6) hM rfl xclX0 fwX0_37 (by decide) dX0_join_180 rfl rfl ?_
    refine x_aload_n (q := 184) dX0_join_183 rfl rfl ?_
    refine c_get (q := 187) (k := 7) (f := 6) hM rfl xclX0 fwX0_37 (by decide) dX0_join_184 rfl rfl ?_
    refine c_call (q := 190) (k := 169) (As := [_, _]) hM (cE_big _ _ ⟨by decide, by decide⟩) imX2_product ivX2_product ilX2_product mwX0_87 xciX2 dX0_join_187 rfl rfl rfl (Nat.le_of_ble_eq_true rfl) ?_
    refine (b_product G l ad F R (d + 1) σ172 169 167 167 ⟨by decide, by decide⟩ ⟨by decide, by decide⟩ ⟨by decide, by decide⟩ (by decide) (by decide) _ _ (k172.bg (by decide) (by decide) (k159.bg (by decide) (by decide) (k147.bg (by decide) (by decide) r139))) (k172.bg (by decide) (by decide) (k159.bg (by decide) (by decide) (k147.bg (by decide) (by decide) r139))) 39 39 (by decide) hpk hpk).mono (fun x9 σ187 hp => ?_)
    obtain ⟨rfl, k187, r187⟩ := hp
    intro M N S hM
    show xX G l _ (d + 5) _ _ _ _ M N S
    refine x_aload_n (q := 191) dX0_join_190 rfl rfl ?_
    refine c_get (q := 194) (k := 7) (f := 9) hM rfl xclX0 fwX0_46 (by decide) dX0_join_191 rfl rfl ?_
    refine x_aload_n (q := 195) dX0_join_194 rfl rfl ?_
    refine c_get (q := 198) (k := 7) (f := 8) hM rfl xclX0 fwX0_43 (by decide) dX0_join_195 rfl rfl ?_
    refine x_aload (q := 200) dX0_join_198 rfl rfl ?_
    refine c_call (q := 203) (k := 170) (As := [_, _]) hM (cE_big _ _ ⟨by decide, by decide⟩) imX2_product ivX2_product ilX2_product mwX0_87 xciX2 dX0_join_200 rfl rfl rfl (Nat.le_of_ble_eq_true rfl) ?_
    refine (b_product G l ad F R (d + 1) σ187 170 169 p ⟨by decide, by decide⟩ ⟨by decide, by decide⟩ hpb (by decide) (by rcases hp' with rfl | rfl <;> decide) _ _ r187 (k187.bg (by rcases hp' with rfl | rfl <;> decide) (by rcases hp' with rfl | rfl <;> decide) (k172.bg (by rcases hp' with rfl | rfl <;> decide) (by rcases hp' with rfl | rfl <;> decide) (k159.bg (by rcases hp' with rfl | rfl <;> decide) (by rcases hp' with rfl | rfl <;> decide) (k147.bg (by rcases hp' with rfl | rfl <;> decide) (by rcases hp' with rfl | rfl <;> decide) (k139.bg (by rcases hp' with rfl | rfl <;> decide) (by rcases hp' with rfl | rfl <;> decide) (k126.bg (by rcases hp' with rfl | rfl <;> decide) (by rcases hp' with rfl | rfl <;> decide) o3)))))) (39 + 39) 39 (by decide) z5 hg).mono (fun x9 σ200 hp => ?_)
    obtain ⟨rfl, k200, r200⟩ := hp
    intro M N S hM
    show xX G l _ (d + 5) _ _ _ _ M N S
    refine x_aload_n (q := 204) dX0_join_203 rfl rfl ?_
    refine c_get (q := 207) (k := 7) (f := 8) hM rfl xclX0 fwX0_43 (by decide) dX0_join_204 rfl rfl ?_
    refine x_aload_n (q := 208) dX0_join_207 rfl rfl ?_
    refine c_get (q := 211) (k := 7) (f := 9) hM rfl xclX0 fwX0_46 (by decide) dX0_join_208 rfl rfl ?_
    refine x_aload_n (q := 212) dX0_join_211 rfl rfl ?_
    refine c_get (q := 215) (k := 7) (f := 5) hM rfl xclX0 fwX0_34 (by decide) dX0_join_212 rfl rfl ?_
    refine c_call (q := 218) (k := 169) (As := [_, _]) hM (cE_big _ _ ⟨by decide, by decide⟩) imX2_product ivX2_product ilX2_product mwX0_87 xciX2 dX0_join_215 rfl rfl rfl (Nat.le_of_ble_eq_true rfl) ?_
    refine (b_product G l ad F R (d + 1) σ200 169 170 166 ⟨by decide, by decide⟩ ⟨by decide, by decide⟩ ⟨by decide, by decide⟩ (by decide) (by decide) _ _ r200 (k200.bg (by decide) (by decide) (k187.bg (by decide) (by decide) (k172.bg (by decide) (by decide) (k159.bg (by decide) (by decide) (k147.bg (by decide) (by decide) (k139.bg (by decide) (by decide) (k126.bg (by decide) (by decide) (o1.bg (by decide) (by decide) hL)))))))) (39 + 39 + 39) (41 * j + 1) q1 z6 hacc.2.2).mono (fun x9 σ215 hp => ?_)
    obtain ⟨rfl, k215, r215⟩ := hp
    intro M N S hM
    show xX G l _ (d + 5) _ _ _ _ M N S
    refine x_aload_n (q := 219) dX0_join_218 rfl rfl ?_
    refine c_get (q := 222) (k := 7) (f := 9) hM rfl xclX0 fwX0_46 (by decide) dX0_join_219 rfl rfl ?_
    refine x_aload_n (q := 223) dX0_join_222 rfl rfl ?_
    refine c_get (q := 226) (k := 7) (f := 4) hM rfl xclX0 fwX0_31 (by decide) dX0_join_223 rfl rfl ?_
    refine x_aload_n (q := 227) dX0_join_226 rfl rfl ?_
    refine c_get (q := 230) (k := 7) (f := 7) hM rfl xclX0 fwX0_40 (by decide) dX0_join_227 rfl rfl ?_
    refine c_call (q := 233) (k := 170) (As := [_, _]) hM (cE_big _ _ ⟨by decide, by decide⟩) imX2_product ivX2_product ilX2_product mwX0_87 xciX2 dX0_join_230 rfl rfl rfl (Nat.le_of_ble_eq_true rfl) ?_
    refine (b_product G l ad F R (d + 1) σ215 170 165 168 ⟨by decide, by decide⟩ ⟨by decide, by decide⟩ ⟨by decide, by decide⟩ (by decide) (by decide) _ _ (k215.bg (by decide) (by decide) (k200.bg (by decide) (by decide) (k187.bg (by decide) (by decide) (k172.bg (by decide) (by decide) (k159.bg (by decide) (by decide) (k147.bg (by decide) (by decide) (k139.bg (by decide) (by decide) (k126.bg (by decide) (by decide) (o1.bg (by decide) (by decide) hU))))))))) (k215.bg (by decide) (by decide) (k200.bg (by decide) (by decide) (k187.bg (by decide) (by decide) r172))) (41 * j + 120) 40 q2 hacc.2.1 hdr).mono (fun x9 σ230 hp => ?_)
    obtain ⟨rfl, k230, r230⟩ := hp
    intro M N S hM
    show xX G l _ (d + 5) _ _ _ _ M N S
    refine x_aload_n (q := 234) dX0_join_233 rfl rfl ?_
    refine c_get (q := 237) (k := 7) (f := 9) hM rfl xclX0 fwX0_46 (by decide) dX0_join_234 rfl rfl ?_
    refine x_aload_n (q := 238) dX0_join_237 rfl rfl ?_
    refine c_get (q := 241) (k := 7) (f := 8) hM rfl xclX0 fwX0_43 (by decide) dX0_join_238 rfl rfl ?_
    refine x_lload_n (q := 242) dX0_join_241 rfl rfl ?_
    refine c_call (q := 245) (k := 170) (As := [_, _]) hM (cE_big _ _ ⟨by decide, by decide⟩) imX2_addTimes ivX2_addTimes ilX2_addTimes mwX0_91 xciX2 dX0_join_242 rfl rfl rfl (Nat.le_of_ble_eq_true rfl) ?_
    refine (b_addTimes G l ad F R (d + 1) σ230 170 169 ⟨by decide, by decide⟩ ⟨by decide, by decide⟩ (by decide) _ _ s r230 (k230.bg (by decide) (by decide) r215) hs9 z9 z8).mono (fun x9 σ242 hp => ?_)
    obtain ⟨rfl, k242, r242⟩ := hp
    intro M N S hM
    show xX G l _ (d + 5) _ _ _ _ M N S
    refine x_aload_n (q := 246) dX0_join_245 rfl rfl ?_
    refine c_get (q := 249) (k := 7) (f := 4) hM rfl xclX0 fwX0_31 (by decide) dX0_join_246 rfl rfl ?_
    refine x_aload_n (q := 250) dX0_join_249 rfl rfl ?_
    refine c_get (q := 253) (k := 7) (f := 9) hM rfl xclX0 fwX0_46 (by decide) dX0_join_250 rfl rfl ?_
    refine c_call (q := 256) (k := 165) (As := [_]) hM (cE_big _ _ ⟨by decide, by decide⟩) imX2_take ivX2_take ilX2_take mwX0_59 xciX2 dX0_join_253 rfl rfl rfl (Nat.le_of_ble_eq_true rfl) ?_
    refine (b_take G l ad F R (d + 1) σ242 165 170 ⟨by decide, by decide⟩ ⟨by decide, by decide⟩ (by decide) _ r242 z10).mono (fun x9 σ253 hp => ?_)
    obtain ⟨rfl, k253, r253⟩ := hp
    intro M N S hM
    show xX G l _ (d + 5) _ _ _ _ M N S
    refine x_aload_n (q := 257) dX0_join_256 rfl rfl ?_
    refine c_get (q := 260) (k := 7) (f := 8) hM rfl xclX0 fwX0_43 (by decide) dX0_join_257 rfl rfl ?_
    refine x_aload_n (q := 261) dX0_join_260 rfl rfl ?_
    refine c_get (q := 264) (k := 7) (f := 5) hM rfl xclX0 fwX0_34 (by decide) dX0_join_261 rfl rfl ?_
    refine x_aload_n (q := 265) dX0_join_264 rfl rfl ?_
    refine c_get (q := 268) (k := 7) (f := 7) hM rfl xclX0 fwX0_40 (by decide) dX0_join_265 rfl rfl ?_
    refine c_call (q := 271) (k := 169) (As := [_, _]) hM (cE_big _ _ ⟨by decide, by decide⟩) imX2_product ivX2_product ilX2_product mwX0_87 xciX2 dX0_join_268 rfl rfl rfl (Nat.le_of_ble_eq_true rfl) ?_
    refine (b_product G l ad F R (d + 1) σ253 169 166 168 ⟨by decide, by decide⟩ ⟨by decide, by decide⟩ ⟨by decide, by decide⟩ (by decide) (by decide) _ _ (k253.bg (by decide) (by decide) (k242.bg (by decide) (by decide) (k230.bg (by decide) (by decide) (k215.bg (by decide) (by decide) (k200.bg (by decide) (by decide) (k187.bg (by decide) (by decide) (k172.bg (by decide) (by decide) (k159.bg (by decide) (by decide) (k147.bg (by decide) (by decide) (k139.bg (by decide) (by decide) (k126.bg (by decide) (by decide) (o1.bg (by decide) (by decide) hL)))))))))))) (k253.bg (by decide) (by decide) (k242.bg (by decide) (by decide) (k230.bg (by decide) (by decide) (k215.bg (by decide) (by decide) (k200.bg (by decide) (by decide) (k187.bg (by decide) (by decide) r172)))))) (41 * j + 1) 40 q3 hacc.2.2 hdr).mono (fun x9 σ268 hp => ?_)
    obtain ⟨rfl, k268, r268⟩ := hp
    intro M N S hM
    show xX G l _ (d + 5) _ _ _ _ M N S
    refine x_aload_n (q := 272) dX0_join_271 rfl rfl ?_
    refine c_get (q := 275) (k := 7) (f := 5) hM rfl xclX0 fwX0_34 (by decide) dX0_join_272 rfl rfl ?_
    refine x_aload_n (q := 276) dX0_join_275 rfl rfl ?_
    refine c_get (q := 279) (k := 7) (f := 8) hM rfl xclX0 fwX0_43 (by decide) dX0_join_276 rfl rfl ?_
    refine c_call (q := 282) (k := 166) (As := [_]) hM (cE_big _ _ ⟨by decide, by decide⟩) imX2_take ivX2_take ilX2_take mwX0_59 xciX2 dX0_join_279 rfl rfl rfl (Nat.le_of_ble_eq_true rfl) ?_
    refine (b_take G l ad F R (d + 1) σ268 166 169 ⟨by decide, by decide⟩ ⟨by decide, by decide⟩ (by decide) _ r268 z11).mono (fun x9 σ279 hp => ?_)
    obtain ⟨rfl, k279, r279⟩ := hp
    intro M N S hM
    show xX G l _ (d + 5) _ _ _ _ M N S
    rw [he]
    have kz : kp [9, 174, 274, 175, 275, 176, 276, 164, 264, 165, 265, 166, 266, 167, 267, 168, 268, 169, 269, 170, 270] σ σ279 := (o1.mono (by decide)).trans ((k126.mono (by decide)).trans ((k139.mono (by decide)).trans ((k147.mono (by decide)).trans ((k159.mono (by decide)).trans ((k172.mono (by decide)).trans ((k187.mono (by decide)).trans ((k200.mono (by decide)).trans ((k215.mono (by decide)).trans ((k230.mono (by decide)).trans ((k242.mono (by decide)).trans ((k253.mono (by decide)).trans ((k268.mono (by decide)).trans (k279.mono (by decide))))))))))))))
    have dz : DvOk σ279 9 := by
      unfold DvOk; rw [k279 9 (by decide), k268 9 (by decide), k253 9 (by decide), k242 9 (by decide), k230 9 (by decide), k215 9 (by decide), k200 9 (by decide), k187 9 (by decide), k172 9 (by decide), k159 9 (by decide), k147 9 (by decide), k139 9 (by decide), k126 9 (by decide)]; exact o2
    exact x_vret rfl dX0_join_282 (c_ret hM ⟨rfl, kz, dz, (k279.bg (by decide) (by decide) (k268.bg (by decide) (by decide) (k253.bg (by decide) (by decide) (k242.bg (by decide) (by decide) (k230.bg (by decide) (by decide) (k215.bg (by decide) (by decide) (k200.bg (by decide) (by decide) (k187.bg (by decide) (by decide) (k172.bg (by decide) (by decide) (k159.bg (by decide) (by decide) (k147.bg (by decide) (by decide) (k139.bg (by decide) (by decide) (k126.bg (by decide) (by decide) (o1.bg (by decide) (by decide) hW)))))))))))))), (k279.bg (by decide) (by decide) (k268.bg (by decide) (by decide) r253)), r279⟩)

  refine cC.of (ls := [(0, .ref (ad 7)), (1, .long (iL s))]) (by decide) (Nat.le_of_ble_eq_true rfl) rfl fun M N S hM => ?_
  have x0 := hx.choose_spec.2.2.1
  have y0 := hy.choose_spec.2.2.1
  have sx := sign_bd x
  have sy := sign_bd y
  have sxy : -1 ≤ x.sign * y.sign ∧ x.sign * y.sign ≤ 1 := by rw [← Int.sign_mul]; exact sign_bd _
  have px := sign_p (v := x)
  have py := sign_p (v := y)
  have nx' := sign_n (v := x)
  have ny := sign_n (v := y)
  have zx := @Int.sign_eq_zero_iff_zero x
  have zy := @Int.sign_eq_zero_iff_zero y
  have w1 : t.1.natAbs < B9 ^ 999 := B9up hacc.1 (by clear bx bY hs hacc; omega)
  have w2 : t.1.natAbs < B9 ^ 1000 := B9up w1 (by decide)
  have w3 : (t.1 + x * s).natAbs < B9 ^ 1000 := B9a w1 (B9up (B9m bx (show s.natAbs < B9 ^ 1 from Nat.lt_of_le_of_lt hs (by decide))) (by decide))
  have b1 : x.natAbs < B9 ^ 1000 := B9up bx (by decide)
  have b2 : y.natAbs < B9 ^ 1000 := B9up bY (by decide)
  have hs9 : s.natAbs ≤ 3000000000 := Nat.le_trans hs (by decide)
  have c1 : 0 ≤ x.sign ∧ 0 ≤ y.sign → jnP s x y t = (t.1 + x * s + y * s, t.2) := fun h => if_pos (by clear w1 w2 w3 b1 b2 hs9 hacc bx bY hs; omega)
  have c2 : ¬ (0 ≤ x.sign ∧ 0 ≤ y.sign) → 0 ≤ x.sign * y.sign → jnP s x y t = t := fun h h2 => by
    unfold jnP; rw [if_neg (by clear w1 w2 w3 b1 b2 hs9 hacc bx bY hs; omega), if_pos h2]
  have c3 : ¬ (0 ≤ x.sign ∧ 0 ≤ y.sign) → ¬ 0 ≤ x.sign * y.sign → 0 < x.sign → jnP s x y t = crP s x y t := fun h h2 h3 => by
    unfold jnP; rw [if_neg (by clear w1 w2 w3 b1 b2 hs9 hacc bx bY hs; omega), if_neg h2, if_pos (px.mp h3)]
  have c4 : ¬ (0 ≤ x.sign ∧ 0 ≤ y.sign) → ¬ 0 ≤ x.sign * y.sign → ¬ 0 < x.sign → jnP s x y t = crP s y x t := fun h h2 h3 => by
    unfold jnP; rw [if_neg (by clear w1 w2 w3 b1 b2 hs9 hacc bx bY hs; omega), if_neg h2, if_neg (fun z => h3 (px.mpr z))]
  clear px py nx' ny zx zy hacc
  have hsg : (sg x = iI x.sign) ∧ sg y = iI y.sign := ⟨sg_iI x, sg_iI y⟩
  generalize x.sign = X at *
  generalize y.sign = Y at *

  have s45 : ¬ (0 ≤ X ∧ 0 ≤ Y) → ∀ (M : xM) (N S : Nat), cA G ad F R σ M N S → xX G l YX0_join (d + 5) (cQ G ad F R (fun r σ' => r = none ∧ kp [9, 174, 274, 175, 275, 176, 276, 164, 264, 165, 265, 166, 266, 167, 267, 168, 268, 169, 269, 170, 270] σ σ' ∧ DvOk σ' 9 ∧ Bg σ' 164 (jnP s x y t).1 ∧ Bg σ' 165 (jnP s x y t).2.1 ∧ Bg σ' 166 (jnP s x y t).2.2)) 45 [(0, .ref (ad 7)), (1, .long (iL s))] [] M N S := by
    intro hn M N S hM

    refine x_aload_n (q := 46) dX0_join_45 rfl rfl ?_
    refine c_get (q := 49) (k := 7) (f := 1) hM rfl xclX0 fwX0_21 (by decide) dX0_join_46 rfl rfl ?_
    refine c_getN (q := 52) (k := 162) (f := 0) hM (cE_big _ _ ⟨by decide, by decide⟩) xclX2 fnX0_72 (by decide) dX0_join_49 rfl rfl ?_
    refine x_topi (y := iI X) (by rw [x0]; exact hsg.1) ?_
    refine x_aload_n (q := 53) dX0_join_52 rfl rfl ?_
    refine c_get (q := 56) (k := 7) (f := 2) hM rfl xclX0 fwX0_25 (by decide) dX0_join_53 rfl rfl ?_
    refine c_getN (q := 59) (k := 163) (f := 0) hM (cE_big _ _ ⟨by decide, by decide⟩) xclX2 fnX0_72 (by decide) dX0_join_56 rfl rfl ?_
    refine x_topi (y := iI Y) (by rw [y0]; exact hsg.2) ?_
    refine xi_imul (q := 60) dX0_join_59 rfl rfl rfl ?_
    refine xi_if_lt (q := 63) 64 dX0_join_60 (by decide) rfl rfl (by omega) (by omega) (fun hc60 => ?_) (fun hc60 => ?_)
    · refine x_aload_n (q := 65) dX0_join_64 rfl rfl ?_
      refine c_get (q := 68) (k := 7) (f := 1) hM rfl xclX0 fwX0_21 (by decide) dX0_join_65 rfl rfl ?_
      refine c_getN (q := 71) (k := 162) (f := 0) hM (cE_big _ _ ⟨by decide, by decide⟩) xclX2 fnX0_72 (by decide) dX0_join_68 rfl rfl ?_
      refine x_topi (y := iI X) (by rw [x0]; exact hsg.1) ?_
      refine xi_if_le (q := 74) 81 dX0_join_71 (by decide) rfl rfl (by omega) (by omega) (fun hc71 => ?_) (fun hc71 => ?_)
      · refine x_aload_n (q := 82) dX0_join_81 rfl rfl ?_
        refine c_get (q := 85) (k := 7) (f := 2) hM rfl xclX0 fwX0_25 (by decide) dX0_join_82 rfl rfl ?_
        refine x_astore_n (q := 86) (ls' := [(0, _), (1, _), (3, _)]) [1, 2, 0] dX0_join_85 rfl (by decide) rfl ?_
        refine x_aload_n (q := 87) dX0_join_86 rfl rfl ?_
        refine c_get (q := 90) (k := 7) (f := 1) hM rfl xclX0 fwX0_21 (by decide) dX0_join_87 rfl rfl ?_
        refine c_getN (q := 93) (k := 162) (f := 0) hM (cE_big _ _ ⟨by decide, by decide⟩) xclX2 fnX0_72 (by decide) dX0_join_90 rfl rfl ?_
        refine x_topi (y := iI X) (by rw [x0]; exact hsg.1) ?_
        refine xi_if_le (q := 96) 103 dX0_join_93 (by decide) rfl rfl (by omega) (by omega) (fun hc93 => ?_) (fun hc93 => absurd hc93 (by omega))
        refine x_aload_n (q := 104) dX0_join_103 rfl rfl ?_
        refine c_get (q := 107) (k := 7) (f := 1) hM rfl xclX0 fwX0_21 (by decide) dX0_join_104 rfl rfl ?_
        refine x_astore (q := 109) (ls' := [(0, _), (1, _), (3, _), (4, _)]) [1, 2, 3, 0] dX0_join_107 rfl (by decide) rfl ?_
        exact s109 163 162 y x M N S (.inr ⟨rfl, rfl⟩) hy hx bY bx (c4 hn (by omega) (by omega)) hM
      · refine x_aload_n (q := 75) dX0_join_74 rfl rfl ?_
        refine c_get (q := 78) (k := 7) (f := 1) hM rfl xclX0 fwX0_21 (by decide) dX0_join_75 rfl rfl ?_
        refine x_goto 85 dX0_join_78 (by decide) ?_
        refine x_astore_n (q := 86) (ls' := [(0, _), (1, _), (3, _)]) [1, 2, 0] dX0_join_85 rfl (by decide) rfl ?_
        refine x_aload_n (q := 87) dX0_join_86 rfl rfl ?_
        refine c_get (q := 90) (k := 7) (f := 1) hM rfl xclX0 fwX0_21 (by decide) dX0_join_87 rfl rfl ?_
        refine c_getN (q := 93) (k := 162) (f := 0) hM (cE_big _ _ ⟨by decide, by decide⟩) xclX2 fnX0_72 (by decide) dX0_join_90 rfl rfl ?_
        refine x_topi (y := iI X) (by rw [x0]; exact hsg.1) ?_
        refine xi_if_le (q := 96) 103 dX0_join_93 (by decide) rfl rfl (by omega) (by omega) (fun hc93 => absurd hc93 (by omega)) (fun hc93 => ?_)
        refine x_aload_n (q := 97) dX0_join_96 rfl rfl ?_
        refine c_get (q := 100) (k := 7) (f := 2) hM rfl xclX0 fwX0_25 (by decide) dX0_join_97 rfl rfl ?_
        refine x_goto 107 dX0_join_100 (by decide) ?_
        refine x_astore (q := 109) (ls' := [(0, _), (1, _), (3, _), (4, _)]) [1, 2, 3, 0] dX0_join_107 rfl (by decide) rfl ?_
        exact s109 162 163 x y M N S (.inl ⟨rfl, rfl⟩) hx hy bx bY (c3 hn (by omega) (by omega)) hM
    · have hc9 := c2 hn (by omega)
      rw [hc9]
      exact x_vret rfl dX0_join_63 (c_ret hM ⟨rfl, kp.rfl', hdv, hW, hU, hL⟩)

  refine x_aload_n (q := 1) dX0_join_0 rfl rfl ?_
  refine c_get (q := 4) (k := 7) (f := 1) hM rfl xclX0 fwX0_21 (by decide) dX0_join_1 rfl rfl ?_
  refine c_getN (q := 7) (k := 162) (f := 0) hM (cE_big _ _ ⟨by decide, by decide⟩) xclX2 fnX0_72 (by decide) dX0_join_4 rfl rfl ?_
  refine x_topi (y := iI X) (by rw [x0]; exact hsg.1) ?_
  refine xi_if_lt (q := 10) 45 dX0_join_7 (by decide) rfl rfl (by omega) (by omega) (fun hc7 => ?_) (fun hc7 => ?_)
  · exact s45 (by omega) M N S hM
  · refine x_aload_n (q := 11) dX0_join_10 rfl rfl ?_
    refine c_get (q := 14) (k := 7) (f := 2) hM rfl xclX0 fwX0_25 (by decide) dX0_join_11 rfl rfl ?_
    refine c_getN (q := 17) (k := 163) (f := 0) hM (cE_big _ _ ⟨by decide, by decide⟩) xclX2 fnX0_72 (by decide) dX0_join_14 rfl rfl ?_
    refine x_topi (y := iI Y) (by rw [y0]; exact hsg.2) ?_
    refine xi_if_lt (q := 20) 45 dX0_join_17 (by decide) rfl rfl (by omega) (by omega) (fun hc17 => ?_) (fun hc17 => ?_)
    · exact s45 (by omega) M N S hM
    · refine x_aload_n (q := 21) dX0_join_20 rfl rfl ?_
      refine c_get (q := 24) (k := 7) (f := 3) hM rfl xclX0 fwX0_28 (by decide) dX0_join_21 rfl rfl ?_
      refine x_aload_n (q := 25) dX0_join_24 rfl rfl ?_
      refine c_get (q := 28) (k := 7) (f := 1) hM rfl xclX0 fwX0_21 (by decide) dX0_join_25 rfl rfl ?_
      refine x_lload_n (q := 29) dX0_join_28 rfl rfl ?_
      refine c_call (q := 32) (k := 164) (As := [_, _]) hM (cE_big _ _ ⟨by decide, by decide⟩) imX2_addTimes ivX2_addTimes ilX2_addTimes mwX0_91 xciX2 dX0_join_29 rfl rfl rfl (Nat.le_of_ble_eq_true rfl) ?_
      refine (b_addTimes G l ad F R (d + 1) σ 164 162 ⟨by decide, by decide⟩ ⟨by decide, by decide⟩ (by decide) t.1 x s hW hx hs9 w2 b1).mono (fun x9 σ29 hp => ?_)
      obtain ⟨rfl, q1, q2⟩ := hp
      intro M N S hM
      show xX G l _ (d + 5) _ _ _ _ M N S
      refine x_aload_n (q := 33) dX0_join_32 rfl rfl ?_
      refine c_get (q := 36) (k := 7) (f := 3) hM rfl xclX0 fwX0_28 (by decide) dX0_join_33 rfl rfl ?_
      refine x_aload_n (q := 37) dX0_join_36 rfl rfl ?_
      refine c_get (q := 40) (k := 7) (f := 2) hM rfl xclX0 fwX0_25 (by decide) dX0_join_37 rfl rfl ?_
      refine x_lload_n (q := 41) dX0_join_40 rfl rfl ?_
      refine c_call (q := 44) (k := 164) (As := [_, _]) hM (cE_big _ _ ⟨by decide, by decide⟩) imX2_addTimes ivX2_addTimes ilX2_addTimes mwX0_91 xciX2 dX0_join_41 rfl rfl rfl (Nat.le_of_ble_eq_true rfl) ?_
      refine (b_addTimes G l ad F R (d + 1) σ29 164 163 ⟨by decide, by decide⟩ ⟨by decide, by decide⟩ (by decide) _ y s q2 (q1.bg (by decide) (by decide) hy) hs9 w3 b2).mono (fun x9 σ41 hp => ?_)
      obtain ⟨rfl, r1, r2⟩ := hp
      intro M N S hM
      show xX G l _ (d + 5) _ _ _ _ M N S
      have hc9 := c1 (by omega)
      rw [hc9]
      exact x_vret rfl dX0_join_44 (c_ret hM ⟨rfl, (q1.mono (by decide)).trans (r1.mono (by decide)), by unfold DvOk; rw [r1 9 (by decide), q1 9 (by decide)]; exact hdv, r2, r1.bg (by decide) (by decide) (q1.bg (by decide) (by decide) hU), r1.bg (by decide) (by decide) (q1.bg (by decide) (by decide) hL)⟩)

end XD4
