section XR5
theorem dg_add_mul {a x p q : Nat} (h : q < p) : dg (a + x * B9 ^ p) q = dg a q := by
  obtain ⟨k, rfl⟩ : ∃ k, p = q + 1 + k := ⟨p - (q + 1), by omega⟩
  have e2 : x * B9 ^ (q + 1 + k) = (x * B9 ^ k * B9) * B9 ^ q := by
    rw [Nat.pow_add, Nat.pow_succ]
    generalize B9 ^ q = u
    generalize B9 ^ k = y
    rw [Nat.mul_comm u B9, Nat.mul_comm (B9 * u) y, ← Nat.mul_assoc, ← Nat.mul_assoc]
  unfold dg
  rw [e2, Nat.add_mul_div_right _ _ (B9_pos q), Nat.add_mul_mod_self_right]
theorem mul_step {U T p c x y : Nat} (h : U / B9 ^ p = T / B9 ^ p + c) : dg (U + x * y * B9 ^ p) p = (x * y + dg T p + c) % B9 ∧ (U + x * y * B9 ^ p) / B9 ^ (p + 1) = T / B9 ^ (p + 1) + (x * y + dg T p + c) / B9 := by
  have h1 := div_dg T p
  have h2 : (U + x * y * B9 ^ p) / B9 ^ p = T / B9 ^ (p + 1) * B9 + (x * y + dg T p + c) := by
    rw [Nat.add_mul_div_right _ _ (B9_pos p), h, h1]
    omega
  unfold dg at *
  rw [div_pow_succ (U + x * y * B9 ^ p), h2]
  constructor
  · rw [Nat.add_comm, Nat.add_mul_mod_self_right]
  · rw [Nat.add_comm, Nat.add_mul_div_right _ _ (by decide), Nat.add_comm]
theorem mul_lt' {x y : Nat} (hx : x < 1000000000) (hy : y < 1000000000) : x * y ≤ 999999998000000001 := by
  have h1 : x * y ≤ 999999999 * 999999999 := Nat.mul_le_mul (by omega) (by omega)
  omega
theorem sg_mul (x y : Int) : sg x * sg y = sg (x * y) := by
  rcases Int.lt_trichotomy x 0 with e | e | e
  · rcases Int.lt_trichotomy y 0 with f | f | f
    · rw [sg_neg e, sg_neg f, sg_pos (Int.mul_pos_of_neg_of_neg e f)]; rfl
    · rw [f, Int.mul_zero, sg_zero]; exact Int32.mul_zero
    · rw [sg_neg e, sg_pos f, sg_neg (Int.mul_neg_of_neg_of_pos e f)]; rfl
  · rw [e, Int.zero_mul, sg_zero]; exact Int32.zero_mul
  · rcases Int.lt_trichotomy y 0 with f | f | f
    · rw [sg_pos e, sg_neg f, sg_neg (Int.mul_neg_of_pos_of_neg e f)]; rfl
    · rw [f, Int.mul_zero, sg_zero]; exact Int32.mul_zero
    · rw [sg_pos e, sg_pos f, sg_pos (Int.mul_pos e f)]; rfl
set_option maxRecDepth 100000 in
set_option maxHeartbeats 4000000 in
theorem c_mul_z (G : xG) (l : Launch) (o : Nat) (as : Nat → Nat) (M0 : xM) (N S : Nat) (d : Nat) (a b t : Nat) (ha : a < 16) (hb : b < 16) (ht : t < 16) (hat : a ≠ t) (hbt : b ≠ t) (σ : mS) (A B na nb : Nat) (hna : A < B9 ^ na) (hnb : B < B9 ^ nb) (hn4 : na + nb ≤ 400) (hza : σ.2.1 15 a = nI na) (hzb : σ.2.1 15 b = nI nb) (hla : ∀ j, j < na → σ.2.1 14 (400 * a + j) = nI (dg A j)) (hlb : ∀ j, j < nb → σ.2.1 14 (400 * b + j) = nI (dg B j)) (Q : xPost)
    (hx : ∀ σ' M, keep t σ σ' → σ'.2.1 16 = σ.2.1 16 → (∀ j, j < na + nb → σ'.2.1 14 (400 * t + j) = nI 0) → mAt o as σ' M0 M → xX G l YX9_multiply d Q 45 [(0, .ref o), (1, .int (nI a)), (2, .int (nI b)), (3, .int (nI t)), (4, .int (nI (na + nb))), (5, .int (nI (na + nb)))] [] M N S) :
    ∀ (u i : Nat), i + u = na + nb → ∀ σ' M, keep t σ σ' → σ'.2.1 16 = σ.2.1 16 → (∀ j, j < i → σ'.2.1 14 (400 * t + j) = nI 0) → mAt o as σ' M0 M → xX G l YX9_multiply d Q 18 [(0, .ref o), (1, .int (nI a)), (2, .int (nI b)), (3, .int (nI t)), (4, .int (nI (na + nb))), (5, .int (nI i))] [] M N S := by
  intro u
  induction u with
  | zero =>
    intro i hi σ' M hk hg hj hM
    obtain rfl : i = na + nb := by omega
    refine x_iload (q := 20) dX9_multiply_18 rfl rfl ?_
    refine x_iload (q := 22) dX9_multiply_20 rfl rfl ?_
    refine xn_icmp_ge (q := 25) 45 dX9_multiply_22 (by decide) rfl (by omega) (by omega) (fun hc22 => ?_) (fun hc22 => absurd hc22 (by omega))
    exact hx σ' M hk hg hj hM
  | succ u ih =>
    intro i hi σ' M hk hg hj hM
    refine x_iload (q := 20) dX9_multiply_18 rfl rfl ?_
    refine x_iload (q := 22) dX9_multiply_20 rfl rfl ?_
    refine xn_icmp_ge (q := 25) 45 dX9_multiply_22 (by decide) rfl (by omega) (by omega) (fun hc22 => absurd hc22 (by omega)) (fun hc22 => ?_)
    refine x_aload_n (q := 26) dX9_multiply_25 rfl rfl ?_
    refine m_get (q := 29) hM 14 fwX9_41 (by decide) dX9_multiply_26 rfl rfl ?_
    refine xn_sipush (q := 32) 400 dX9_multiply_29 rfl (by decide) ?_
    refine x_iload_n (q := 33) dX9_multiply_32 rfl rfl ?_
    refine xn_imul (q := 34) dX9_multiply_33 rfl ?_
    refine x_iload (q := 36) dX9_multiply_34 rfl rfl ?_
    refine xn_iadd (q := 37) dX9_multiply_36 rfl ?_
    refine xn_iconst (q := 38) 0 dX9_multiply_37 rfl (by decide) ?_
    refine m_limb (q := 39) hM t dX9_multiply_38 rfl (by omega) (by omega) (by omega) (fun M σ38 k38 e38 f38 g38 i38 hM => ?_)
    refine xn_iinc (q := 42) (ls' := [(0, _), (1, _), (2, _), (3, _), (4, _), (5, _)]) [1, 2, 3, 4, 5, 0] 1 dX9_multiply_39 rfl rfl (by decide) (by decide) rfl ?_
    refine x_goto 18 dX9_multiply_42 (by decide) ?_
    refine ih (i + 1) (by omega) σ38 M (hk.trans k38) (i38.trans hg) (fun j hjj => ?_) hM
    by_cases e : j = i
    · rw [e]; exact e38
    · rw [f38 _ (by omega)]; exact hj j (by omega)
set_option maxRecDepth 100000 in
set_option maxHeartbeats 4000000 in
theorem c_mul_j (G : xG) (l : Launch) (o : Nat) (as : Nat → Nat) (M0 : xM) (N S : Nat) (d : Nat) (a b t : Nat) (ha : a < 16) (hb : b < 16) (ht : t < 16) (hat : a ≠ t) (hbt : b ≠ t) (σ : mS) (A B na nb : Nat) (hna : A < B9 ^ na) (hnb : B < B9 ^ nb) (hn4 : na + nb ≤ 400) (hza : σ.2.1 15 a = nI na) (hzb : σ.2.1 15 b = nI nb) (hla : ∀ j, j < na → σ.2.1 14 (400 * a + j) = nI (dg A j)) (hlb : ∀ j, j < nb → σ.2.1 14 (400 * b + j) = nI (dg B j)) (i T : Nat) (hi : i < na) (Q : xPost)
    (hx : ∀ c σ' M, c < 1000000000 → (T + dg A i * (B % B9 ^ nb) * B9 ^ i) / B9 ^ (i + nb) = T / B9 ^ (i + nb) + c → keep t σ σ' → σ'.2.1 16 = σ.2.1 16 → (∀ p, p < i + nb → σ'.2.1 14 (400 * t + p) = nI (dg (T + dg A i * (B % B9 ^ nb) * B9 ^ i) p)) → (∀ p, i + nb ≤ p → p < na + nb → σ'.2.1 14 (400 * t + p) = nI (dg T p)) → mAt o as σ' M0 M → xX G l YX9_multiply d Q 165 [(0, .ref o), (1, .int (nI a)), (2, .int (nI b)), (3, .int (nI t)), (4, .int (nI (na + nb))), (5, .int (nI i)), (6, .long (lN c)), (8, .int (nI nb))] [] M N S) :
    ∀ (u j : Nat), j + u = nb → ∀ c σ' M, c < 1000000000 → (T + dg A i * (B % B9 ^ j) * B9 ^ i) / B9 ^ (i + j) = T / B9 ^ (i + j) + c → keep t σ σ' → σ'.2.1 16 = σ.2.1 16 → (∀ p, p < i + j → σ'.2.1 14 (400 * t + p) = nI (dg (T + dg A i * (B % B9 ^ j) * B9 ^ i) p)) → (∀ p, i + j ≤ p → p < na + nb → σ'.2.1 14 (400 * t + p) = nI (dg T p)) → mAt o as σ' M0 M → xX G l YX9_multiply d Q 65 [(0, .ref o), (1, .int (nI a)), (2, .int (nI b)), (3, .int (nI t)), (4, .int (nI (na + nb))), (5, .int (nI i)), (6, .long (lN c)), (8, .int (nI j))] [] M N S := by
  intro u
  induction u with
  | zero =>
    intro j hj c σ' M hc hcd hk hg h1 h2 hM
    obtain rfl : j = nb := by omega
    have hzb' : σ'.2.1 15 b = nI j := (hk.2.2.2.1 b hbt).1.trans hzb
    refine x_iload (q := 67) dX9_multiply_65 rfl rfl ?_
    refine x_aload_n (q := 68) dX9_multiply_67 rfl rfl ?_
    refine m_get (q := 71) hM 15 fwX9_44 (by decide) dX9_multiply_68 rfl rfl ?_
    refine x_iload_n (q := 72) dX9_multiply_71 rfl rfl ?_
    refine m_iald (q := 73) hM (n := 16) (by decide) dX9_multiply_72 rfl (by omega) ?_
    rw [hzb']
    refine xn_icmp_ge (q := 76) 165 dX9_multiply_73 (by decide) rfl (by omega) (by omega) (fun hc73 => ?_) (fun hc73 => absurd hc73 (by omega))
    exact hx c σ' M hc hcd hk hg h1 h2 hM
  | succ u ih =>
    intro j hj c σ' M hc hcd hk hg h1 h2 hM
    have hzb' : σ'.2.1 15 b = nI nb := (hk.2.2.2.1 b hbt).1.trans hzb
    have hla' : σ'.2.1 14 (400 * a + i) = nI (dg A i) := (hk.2.2.2.2 _ (by omega)).trans (hla i hi)
    have hlb' : σ'.2.1 14 (400 * b + j) = nI (dg B j) := (hk.2.2.2.2 _ (by omega)).trans (hlb j (by omega))
    have hlt' : σ'.2.1 14 (400 * t + i + j) = nI (dg T (i + j)) := by rw [Nat.add_assoc]; exact h2 (i + j) (Nat.le_refl _) (by omega)
    have da : dg A i < 1000000000 := dg_lt A i
    have db : dg B j < 1000000000 := dg_lt B j
    have dt : dg T (i + j) < 1000000000 := dg_lt T (i + j)
    have hm := mul_lt' da db
    have hv : dg A i * dg B j + dg T (i + j) + c < 1000000000000000000 := by omega
    refine x_iload (q := 67) dX9_multiply_65 rfl rfl ?_
    refine x_aload_n (q := 68) dX9_multiply_67 rfl rfl ?_
    refine m_get (q := 71) hM 15 fwX9_44 (by decide) dX9_multiply_68 rfl rfl ?_
    refine x_iload_n (q := 72) dX9_multiply_71 rfl rfl ?_
    refine m_iald (q := 73) hM (n := 16) (by decide) dX9_multiply_72 rfl (by omega) ?_
    rw [hzb']
    refine xn_icmp_ge (q := 76) 165 dX9_multiply_73 (by decide) rfl (by omega) (by omega) (fun hc73 => absurd hc73 (by omega)) (fun hc73 => ?_)
    refine x_aload_n (q := 77) dX9_multiply_76 rfl rfl ?_
    refine m_get (q := 80) hM 14 fwX9_41 (by decide) dX9_multiply_77 rfl rfl ?_
    refine xn_sipush (q := 83) 400 dX9_multiply_80 rfl (by decide) ?_
    refine x_iload_n (q := 84) dX9_multiply_83 rfl rfl ?_
    refine xn_imul (q := 85) dX9_multiply_84 rfl ?_
    refine x_iload (q := 87) dX9_multiply_85 rfl rfl ?_
    refine xn_iadd (q := 88) dX9_multiply_87 rfl ?_
    refine m_iald (q := 89) hM (n := 6400) (by decide) dX9_multiply_88 rfl (by omega) ?_
    rw [hla']
    refine xn_i2l (q := 90) dX9_multiply_89 rfl (by omega) ?_
    refine x_aload_n (q := 91) dX9_multiply_90 rfl rfl ?_
    refine m_get (q := 94) hM 14 fwX9_41 (by decide) dX9_multiply_91 rfl rfl ?_
    refine xn_sipush (q := 97) 400 dX9_multiply_94 rfl (by decide) ?_
    refine x_iload_n (q := 98) dX9_multiply_97 rfl rfl ?_
    refine xn_imul (q := 99) dX9_multiply_98 rfl ?_
    refine x_iload (q := 101) dX9_multiply_99 rfl rfl ?_
    refine xn_iadd (q := 102) dX9_multiply_101 rfl ?_
    refine m_iald (q := 103) hM (n := 6400) (by decide) dX9_multiply_102 rfl (by omega) ?_
    rw [hlb']
    refine xn_i2l (q := 104) dX9_multiply_103 rfl (by omega) ?_
    refine xn_lmul (q := 105) dX9_multiply_104 rfl ?_
    refine x_aload_n (q := 106) dX9_multiply_105 rfl rfl ?_
    refine m_get (q := 109) hM 14 fwX9_41 (by decide) dX9_multiply_106 rfl rfl ?_
    refine xn_sipush (q := 112) 400 dX9_multiply_109 rfl (by decide) ?_
    refine x_iload_n (q := 113) dX9_multiply_112 rfl rfl ?_
    refine xn_imul (q := 114) dX9_multiply_113 rfl ?_
    refine x_iload (q := 116) dX9_multiply_114 rfl rfl ?_
    refine xn_iadd (q := 117) dX9_multiply_116 rfl ?_
    refine x_iload (q := 119) dX9_multiply_117 rfl rfl ?_
    refine xn_iadd (q := 120) dX9_multiply_119 rfl ?_
    refine m_iald (q := 121) hM (n := 6400) (by decide) dX9_multiply_120 rfl (by omega) ?_
    rw [hlt']
    refine xn_i2l (q := 122) dX9_multiply_121 rfl (by omega) ?_
    refine xn_ladd (q := 123) dX9_multiply_122 rfl ?_
    refine x_lload (q := 125) dX9_multiply_123 rfl rfl ?_
    refine xn_ladd (q := 126) dX9_multiply_125 rfl ?_
    refine x_lstore (q := 128) (ls' := [(0, _), (1, _), (2, _), (3, _), (4, _), (5, _), (6, _), (8, _), (9, _)]) [1, 2, 3, 4, 5, 6, 7, 8, 0] dX9_multiply_126 rfl (by decide) rfl ?_
    refine x_aload_n (q := 129) dX9_multiply_128 rfl rfl ?_
    refine m_get (q := 132) hM 14 fwX9_41 (by decide) dX9_multiply_129 rfl rfl ?_
    refine xn_sipush (q := 135) 400 dX9_multiply_132 rfl (by decide) ?_
    refine x_iload_n (q := 136) dX9_multiply_135 rfl rfl ?_
    refine xn_imul (q := 137) dX9_multiply_136 rfl ?_
    refine x_iload (q := 139) dX9_multiply_137 rfl rfl ?_
    refine xn_iadd (q := 140) dX9_multiply_139 rfl ?_
    refine x_iload (q := 142) dX9_multiply_140 rfl rfl ?_
    refine xn_iadd (q := 143) dX9_multiply_142 rfl ?_
    refine x_lload (q := 145) dX9_multiply_143 rfl rfl ?_
    refine xn_ldc2 (q := 148) 1000000000 dX9_multiply_145 rfl cwX9_100 ?_
    refine xn_lrem (q := 149) dX9_multiply_148 rfl (by omega) (by omega) (by omega) ?_
    refine xn_l2i (q := 150) dX9_multiply_149 rfl ?_
    refine m_limb (q := 151) hM t dX9_multiply_150 rfl (by omega) (by omega) (by omega) (fun M σ150 k150 e150 f150 g150 i150 hM => ?_)
    refine x_lload (q := 153) dX9_multiply_151 rfl rfl ?_
    refine xn_ldc2 (q := 156) 1000000000 dX9_multiply_153 rfl cwX9_100 ?_
    refine xn_ldiv (q := 157) dX9_multiply_156 rfl (by omega) (by omega) (by omega) ?_
    refine x_lstore (q := 159) (ls' := [(0, _), (1, _), (2, _), (3, _), (4, _), (5, _), (6, _), (8, _), (9, _)]) [1, 2, 3, 4, 5, 6, 0, 7, 8] dX9_multiply_157 rfl (by decide) rfl ?_
    refine xn_iinc (q := 162) (ls' := [(0, _), (1, _), (2, _), (3, _), (4, _), (5, _), (6, _), (8, _), (9, _)]) [1, 2, 3, 4, 5, 6, 7, 0, 8] 1 dX9_multiply_159 rfl rfl (by decide) (by decide) rfl ?_
    refine x_goto 65 dX9_multiply_162 (by decide) ?_
    refine x_ls (ls' := [(0, _), (1, _), (2, _), (3, _), (4, _), (5, _), (6, _), (8, _)]) [0, 1, 2, 3, 4, 5, 6, 7] rfl ?_
    have e0 : T + dg A i * (B % B9 ^ (j + 1)) * B9 ^ i = (T + dg A i * (B % B9 ^ j) * B9 ^ i) + dg A i * dg B j * B9 ^ (i + j) := by
      rw [mod_dg, Nat.mul_add, Nat.add_mul, Nat.add_assoc, Nat.pow_add]
      congr 2
      generalize B9 ^ i = x1; generalize B9 ^ j = x2; generalize dg A i = x3; generalize dg B j = x4
      rw [Nat.mul_assoc, Nat.mul_assoc, Nat.mul_assoc, Nat.mul_comm x2 x1]
    obtain ⟨s1, s2⟩ := mul_step (x := dg A i) (y := dg B j) hcd
    rw [← e0] at s1 s2
    refine ih (j + 1) (by omega) _ σ150 M (Nat.div_lt_of_lt_mul (by omega)) (by rw [← Nat.add_assoc]; exact s2) (hk.trans k150) (i150.trans hg) (fun p hp => ?_) (fun p hp hp2 => ?_) hM
    · by_cases e : p = i + j
      · rw [e, s1, ← Nat.add_assoc]; exact e150
      · rw [f150 _ (by omega), h1 p (by omega), e0]; exact congrArg nI (dg_add_mul (p := i + j) (by omega)).symm
    · rw [f150 _ (by omega)]; exact h2 p (by omega) hp2
set_option maxRecDepth 100000 in
set_option maxHeartbeats 4000000 in
theorem c_mul_i (G : xG) (l : Launch) (o : Nat) (as : Nat → Nat) (M0 : xM) (N S : Nat) (d : Nat) (a b t : Nat) (ha : a < 16) (hb : b < 16) (ht : t < 16) (hat : a ≠ t) (hbt : b ≠ t) (σ : mS) (A B na nb : Nat) (hna : A < B9 ^ na) (hnb : B < B9 ^ nb) (hn4 : na + nb ≤ 400) (hza : σ.2.1 15 a = nI na) (hzb : σ.2.1 15 b = nI nb) (hla : ∀ j, j < na → σ.2.1 14 (400 * a + j) = nI (dg A j)) (hlb : ∀ j, j < nb → σ.2.1 14 (400 * b + j) = nI (dg B j)) (Q : xPost)
    (hx : ∀ σ' M, keep t σ σ' → σ'.2.1 16 = σ.2.1 16 → (∀ j, j < na + nb → σ'.2.1 14 (400 * t + j) = nI (dg (A * B) j)) → mAt o as σ' M0 M → xX G l YX9_multiply d Q 194 [(0, .ref o), (1, .int (nI a)), (2, .int (nI b)), (3, .int (nI t)), (4, .int (nI (na + nb))), (5, .int (nI na))] [] M N S) :
    ∀ (u i : Nat), i + u = na → ∀ σ' M, keep t σ σ' → σ'.2.1 16 = σ.2.1 16 → (∀ j, j < na + nb → σ'.2.1 14 (400 * t + j) = nI (dg ((A % B9 ^ i) * B) j)) → mAt o as σ' M0 M → xX G l YX9_multiply d Q 48 [(0, .ref o), (1, .int (nI a)), (2, .int (nI b)), (3, .int (nI t)), (4, .int (nI (na + nb))), (5, .int (nI i))] [] M N S := by
  intro u
  induction u with
  | zero =>
    intro i hi σ' M hk hg hj hM
    obtain rfl : i = na := by omega
    have hza' : σ'.2.1 15 a = nI i := (hk.2.2.2.1 a hat).1.trans hza
    rw [Nat.mod_eq_of_lt hna] at hj
    refine x_iload (q := 50) dX9_multiply_48 rfl rfl ?_
    refine x_aload_n (q := 51) dX9_multiply_50 rfl rfl ?_
    refine m_get (q := 54) hM 15 fwX9_44 (by decide) dX9_multiply_51 rfl rfl ?_
    refine x_iload_n (q := 55) dX9_multiply_54 rfl rfl ?_
    refine m_iald (q := 56) hM (n := 16) (by decide) dX9_multiply_55 rfl (by omega) ?_
    rw [hza']
    refine xn_icmp_ge (q := 59) 194 dX9_multiply_56 (by decide) rfl (by omega) (by omega) (fun hc56 => ?_) (fun hc56 => absurd hc56 (by omega))
    exact hx σ' M hk hg hj hM
  | succ u ih =>
    intro i hi σ' M hk hg hj hM
    have hza' : σ'.2.1 15 a = nI na := (hk.2.2.2.1 a hat).1.trans hza
    refine x_iload (q := 50) dX9_multiply_48 rfl rfl ?_
    refine x_aload_n (q := 51) dX9_multiply_50 rfl rfl ?_
    refine m_get (q := 54) hM 15 fwX9_44 (by decide) dX9_multiply_51 rfl rfl ?_
    refine x_iload_n (q := 55) dX9_multiply_54 rfl rfl ?_
    refine m_iald (q := 56) hM (n := 16) (by decide) dX9_multiply_55 rfl (by omega) ?_
    rw [hza']
    refine xn_icmp_ge (q := 59) 194 dX9_multiply_56 (by decide) rfl (by omega) (by omega) (fun hc56 => absurd hc56 (by omega)) (fun hc56 => ?_)
    refine xn_lconst (q := 60) 0 dX9_multiply_59 rfl (by decide) ?_
    refine x_lstore (q := 62) (ls' := [(0, _), (1, _), (2, _), (3, _), (4, _), (5, _), (6, _)]) [1, 2, 3, 4, 5, 6, 0] dX9_multiply_60 rfl (by decide) rfl ?_
    refine xn_iconst (q := 63) 0 dX9_multiply_62 rfl (by decide) ?_
    refine x_istore (q := 65) (ls' := [(0, _), (1, _), (2, _), (3, _), (4, _), (5, _), (6, _), (8, _)]) [1, 2, 3, 4, 5, 6, 7, 0] dX9_multiply_63 rfl (by decide) rfl ?_
    have hza2 : σ'.2.1 15 a = nI na := hza'
    refine c_mul_j G l o as M0 N S d a b t ha hb ht hat hbt σ A B na nb hna hnb hn4 hza hzb hla hlb i ((A % B9 ^ i) * B) (by omega) Q (fun c σ2 M hc hcd hk2 hg2 h1 h2 hM => ?_) nb 0 (Nat.zero_add _) 0 σ' M (by decide) ?_ hk hg (fun p hp => ?_) (fun p hp hp2 => hj p hp2) hM
    · have hzb' : σ2.2.1 15 b = nI nb := (hk2.2.2.2.1 b hbt).1.trans hzb
      refine x_aload_n (q := 166) dX9_multiply_165 rfl rfl ?_
      refine m_get (q := 169) hM 14 fwX9_41 (by decide) dX9_multiply_166 rfl rfl ?_
      refine xn_sipush (q := 172) 400 dX9_multiply_169 rfl (by decide) ?_
      refine x_iload_n (q := 173) dX9_multiply_172 rfl rfl ?_
      refine xn_imul (q := 174) dX9_multiply_173 rfl ?_
      refine x_iload (q := 176) dX9_multiply_174 rfl rfl ?_
      refine xn_iadd (q := 177) dX9_multiply_176 rfl ?_
      refine x_aload_n (q := 178) dX9_multiply_177 rfl rfl ?_
      refine m_get (q := 181) hM 15 fwX9_44 (by decide) dX9_multiply_178 rfl rfl ?_
      refine x_iload_n (q := 182) dX9_multiply_181 rfl rfl ?_
      refine m_iald (q := 183) hM (n := 16) (by decide) dX9_multiply_182 rfl (by omega) ?_
      rw [hzb']
      refine xn_iadd (q := 184) dX9_multiply_183 rfl ?_
      refine x_lload (q := 186) dX9_multiply_184 rfl rfl ?_
      refine xn_l2i (q := 187) dX9_multiply_186 rfl ?_
      refine m_limb (q := 188) hM t dX9_multiply_187 rfl (by omega) (by omega) (by omega) (fun M σ187 k187 e187 f187 g187 i187 hM => ?_)
      refine xn_iinc (q := 191) (ls' := [(0, _), (1, _), (2, _), (3, _), (4, _), (5, _), (6, _), (8, _)]) [1, 2, 3, 4, 5, 0, 6, 7] 1 dX9_multiply_188 rfl rfl (by decide) (by decide) rfl ?_
      refine x_goto 48 dX9_multiply_191 (by decide) ?_
      refine x_ls (ls' := [(0, _), (1, _), (2, _), (3, _), (4, _), (5, _)]) [0, 1, 2, 3, 4, 5] rfl ?_
      have eB : B % B9 ^ nb = B := Nat.mod_eq_of_lt hnb
      rw [eB] at hcd h1
      have eU : A % B9 ^ i * B + dg A i * B * B9 ^ i = A % B9 ^ (i + 1) * B := by
        rw [mod_dg, Nat.add_mul]; congr 1
        generalize B9 ^ i = x1; generalize dg A i = x3
        rw [Nat.mul_assoc, Nat.mul_comm B x1, ← Nat.mul_assoc]
      rw [eU] at hcd h1
      have hT : A % B9 ^ i * B < B9 ^ (i + nb) := by
        rw [Nat.pow_add]; exact Nat.mul_lt_mul'' (Nat.mod_lt _ (B9_pos i)) hnb
      have hU : A % B9 ^ (i + 1) * B < B9 ^ (i + nb + 1) := by
        rw [show i + nb + 1 = (i + 1) + nb by omega, Nat.pow_add B9 (i + 1) nb]; exact Nat.mul_lt_mul'' (Nat.mod_lt _ (B9_pos (i + 1))) hnb
      rw [Nat.div_eq_of_lt hT, Nat.zero_add] at hcd
      refine ih (i + 1) (by omega) σ187 M (hk2.trans k187) (i187.trans hg2) (fun p hp => ?_) hM
      rcases Nat.lt_trichotomy p (i + nb) with e | e | e
      · rw [f187 _ (by omega)]; exact h1 p e
      · rw [e, ← Nat.add_assoc, e187]
        refine congrArg nI ?_
        rw [show dg (A % B9 ^ (i + 1) * B) (i + nb) = (A % B9 ^ (i + 1) * B) / B9 ^ (i + nb) % B9 from rfl, hcd]
        exact (Nat.mod_eq_of_lt hc).symm
      · rw [f187 _ (by omega), h2 p (by omega) hp, dg_hi (Nat.lt_of_lt_of_le hT (B9_mono (by omega))), dg_hi (Nat.lt_of_lt_of_le hU (B9_mono (by omega)))]
    · rw [Nat.pow_zero, Nat.mod_one, Nat.mul_zero, Nat.zero_mul]; rfl
    · rw [Nat.pow_zero, Nat.mod_one, Nat.mul_zero, Nat.zero_mul]; exact hj p (by omega)
set_option maxRecDepth 100000 in
set_option maxHeartbeats 4000000 in
theorem c_multiply (G : xG) (l : Launch) (o : Nat) (as : Nat → Nat) (M0 : xM) (N S : Nat) (d : Nat) (a b t : Nat) (ha : a < 16) (hb : b < 16) (ht : t < 16) (hat : a ≠ t) (hbt : b ≠ t) (σ : mS) (va vb : Int) (na nb : Nat) (hva : Reg σ a va) (hvb : Reg σ b vb) (hA : va.natAbs < B9 ^ na) (hB : vb.natAbs < B9 ^ nb) (hn4 : na + nb ≤ 400) : mC G l o as M0 N S YX9_multiply (d + 1) [.int (nI a), .int (nI b), .int (nI t)] σ (fun x σ' => x = none ∧ keep t σ σ' ∧ Reg σ' t (va * vb)) := by
  obtain ⟨ma, hma4, hna, hza, hga, hla⟩ := hva
  obtain ⟨mb, hmb4, hnb, hzb, hgb, hlb⟩ := hvb
  have h1 := nl_of_le hna hA
  have h2 := nl_of_le hnb hB
  have hn5 : ma + mb ≤ 400 := by omega
  have hlt : va.natAbs * vb.natAbs < B9 ^ (ma + mb) := by rw [Nat.pow_add]; exact Nat.mul_lt_mul'' hna.1 hnb.1
  refine mC.of (ls := [(0, .ref o), (1, .int (nI a)), (2, .int (nI b)), (3, .int (nI t))]) (by decide) (Nat.le_of_ble_eq_true rfl) rfl fun M hM => ?_
  refine x_aload_n (q := 1) dX9_multiply_0 rfl rfl ?_
  refine m_get (q := 4) hM 15 fwX9_44 (by decide) dX9_multiply_1 rfl rfl ?_
  refine x_iload_n (q := 5) dX9_multiply_4 rfl rfl ?_
  refine m_iald (q := 6) hM (n := 16) (by decide) dX9_multiply_5 rfl (by omega) ?_
  rw [hza]
  refine x_aload_n (q := 7) dX9_multiply_6 rfl rfl ?_
  refine m_get (q := 10) hM 15 fwX9_44 (by decide) dX9_multiply_7 rfl rfl ?_
  refine x_iload_n (q := 11) dX9_multiply_10 rfl rfl ?_
  refine m_iald (q := 12) hM (n := 16) (by decide) dX9_multiply_11 rfl (by omega) ?_
  rw [hzb]
  refine xn_iadd (q := 13) dX9_multiply_12 rfl ?_
  refine x_istore (q := 15) (ls' := [(0, _), (1, _), (2, _), (3, _), (4, _)]) [1, 2, 3, 4, 0] dX9_multiply_13 rfl (by decide) rfl ?_
  refine xn_iconst (q := 16) 0 dX9_multiply_15 rfl (by decide) ?_
  refine x_istore (q := 18) (ls' := [(0, _), (1, _), (2, _), (3, _), (4, _), (5, _)]) [1, 2, 3, 4, 5, 0] dX9_multiply_16 rfl (by decide) rfl ?_
  refine c_mul_z G l o as M0 N S (d + 1) a b t ha hb ht hat hbt σ va.natAbs vb.natAbs ma mb hna.1 hnb.1 hn5 hza hzb hla hlb _ (fun σ1 M hk1 hg1 hz1 hM => ?_) _ 0 (Nat.zero_add _) σ M keep.rfl' rfl (fun j h => absurd h (Nat.not_lt_zero j)) hM
  refine xn_iconst (q := 46) 0 dX9_multiply_45 rfl (by decide) ?_
  refine x_istore (q := 48) (ls' := [(0, _), (1, _), (2, _), (3, _), (4, _), (5, _)]) [1, 2, 3, 4, 5, 0] dX9_multiply_46 rfl (by decide) rfl ?_
  refine c_mul_i G l o as M0 N S (d + 1) a b t ha hb ht hat hbt σ va.natAbs vb.natAbs ma mb hna.1 hnb.1 hn5 hza hzb hla hlb _ (fun σ2 M hk2 hg2 hz2 hM => ?_) _ 0 (Nat.zero_add _) σ1 M hk1 hg1 (fun j h => by rw [hz1 j h, Nat.pow_zero, Nat.mod_one, Nat.zero_mul]; unfold dg; rw [Nat.zero_div, Nat.zero_mod]) hM
  have ga : σ2.2.1 16 a = sg va := by rw [hg2]; exact hga
  have gb : σ2.2.1 16 b = sg vb := by rw [hg2]; exact hgb
  refine x_aload_n (q := 195) dX9_multiply_194 rfl rfl ?_
  refine m_get (q := 198) hM 16 fwX9_47 (by decide) dX9_multiply_195 rfl rfl ?_
  refine x_iload_n (q := 199) dX9_multiply_198 rfl rfl ?_
  refine x_aload_n (q := 200) dX9_multiply_199 rfl rfl ?_
  refine m_get (q := 203) hM 16 fwX9_47 (by decide) dX9_multiply_200 rfl rfl ?_
  refine x_iload_n (q := 204) dX9_multiply_203 rfl rfl ?_
  refine m_iald (q := 205) hM (n := 16) (by decide) dX9_multiply_204 rfl (by omega) ?_
  rw [ga]
  refine x_aload_n (q := 206) dX9_multiply_205 rfl rfl ?_
  refine m_get (q := 209) hM 16 fwX9_47 (by decide) dX9_multiply_206 rfl rfl ?_
  refine x_iload_n (q := 210) dX9_multiply_209 rfl rfl ?_
  refine m_iald (q := 211) hM (n := 16) (by decide) dX9_multiply_210 rfl (by omega) ?_
  rw [gb]
  refine x_imul (q := 212) dX9_multiply_211 rfl ?_
  refine m_sign (q := 213) hM dX9_multiply_212 rfl (by omega) (fun M σ212 k212 e212 f212 g212 hM => ?_)
  refine x_aload_n (q := 214) dX9_multiply_213 rfl rfl ?_
  refine x_iload_n (q := 215) dX9_multiply_214 rfl rfl ?_
  refine x_iload (q := 217) dX9_multiply_215 rfl rfl ?_
  refine m_call (q := 220) (As := [_, _]) hM imX9_trim ivX9_trim ilX9_trim mwX9_103 xciX9 dX9_multiply_217 rfl rfl rfl (by decide) ?_
  refine (c_trim G l o as M0 N S d t (ma + mb) ht hn5 σ212 (dg (va.natAbs * vb.natAbs)) (va * vb) (fun j _ => dg_lt _ _) (fun j hj => by rw [f212]; exact hz2 j hj) (by rw [val_dg hlt, Int.natAbs_mul]) (fun _ => by rw [e212]; exact sg_mul va vb)).mono (fun x σ9 hp => ?_)
  obtain ⟨rfl, k9, r9⟩ := hp
  intro M hM
  show xX G l _ (d + 1) _ _ _ [] M N S
  exact x_vret rfl dX9_multiply_220 (m_ret hM ⟨rfl, (hk2.trans k212).trans k9, r9⟩)
end XR5
