section XD
theorem kd_le {X D P g : Nat} (hP : 0 < P) (h : g * D ≤ X) : g * (D / P) ≤ X / P := by
  rw [Nat.le_div_iff_mul_le hP, Nat.mul_assoc]
  exact Nat.le_trans (Nat.mul_le_mul_left g (Nat.div_mul_le_self D P)) h
theorem kd_aux {g T s2 R x0 K two : Nat} (h2 : g * T ≤ two) (hR : two - g * T = R) (h : R * K + x0 < g * s2) : two * K + x0 < g * (T * K + s2) := by
  have e : two = g * T + R := by omega
  rw [e, Nat.add_mul, Nat.mul_add, ← Nat.mul_assoc]
  omega
theorem kd_up {X D P g B : Nat} (hP : 0 < P) (hg : g < B) (hB : B ≤ D / P) (h : g * (D / P) ≤ X / P) : g ≤ X / D + 1 := by
  have hD : 0 < D := by
    rcases Nat.eq_zero_or_pos D with e | e
    · rw [e, Nat.zero_div] at hB; omega
    · exact e
  rcases Nat.eq_zero_or_pos g with e | e
  · rw [e]; exact Nat.zero_le _
  · have h1 : (g - 1) * D ≤ X := by
      have hd : D < (D / P + 1) * P := by
        have := Nat.div_add_mod D P
        have := Nat.mod_lt D hP
        rw [Nat.add_mul, Nat.mul_comm]; omega
      have h2 : (g - 1) * D ≤ (g - 1) * ((D / P + 1) * P) := Nat.mul_le_mul_left _ (Nat.le_of_lt hd)
      have h3 : (g - 1) * (D / P + 1) ≤ X / P := by
        generalize D / P = y at *
        have e1 : g = (g - 1) + 1 := by omega
        generalize g - 1 = w at *
        subst e1
        rw [Nat.add_mul] at h
        rw [Nat.mul_add]
        omega
      have h4 : (g - 1) * (D / P + 1) * P ≤ X / P * P := Nat.mul_le_mul_right _ h3
      have h5 := Nat.div_mul_le_self X P
      rw [← Nat.mul_assoc] at h2
      omega
    have := (Nat.le_div_iff_mul_le hD).mpr h1
    omega
/-- what multiplying and taking away leaves -/
theorem kd_sub {X D g n V c : Nat} (hD : 0 < D) (hDn : D < B9 ^ n) (hV : V < B9 ^ (n + 1)) (hg : X / D ≤ g) (hg1 : g ≤ X / D + 1) (h : V + g * D = X + c * B9 ^ (n + 1)) : (c = 0 → g = X / D ∧ V = X % D) ∧ (c ≠ 0 → g = X / D + 1 ∧ V + D = X % D + B9 ^ (n + 1)) := by
  have hX := Nat.div_add_mod X D
  have hr := Nat.mod_lt X hD
  have hB : B9 ^ n ≤ B9 ^ (n + 1) := B9_mono (by omega)
  rw [Nat.mul_comm] at hX
  rcases Nat.lt_or_ge g (X / D + 1) with e | e
  · obtain rfl : g = X / D := by omega
    generalize X / D * D = w at *
    have hc : c = 0 := by
      rcases Nat.eq_zero_or_pos c with e0 | e0
      · exact e0
      · have : 1 * B9 ^ (n + 1) ≤ c * B9 ^ (n + 1) := Nat.mul_le_mul_right _ e0
        omega
    subst hc
    rw [Nat.zero_mul] at h
    exact ⟨fun _ => ⟨rfl, by omega⟩, fun q => absurd rfl q⟩
  · obtain rfl : g = X / D + 1 := by omega
    rw [Nat.add_mul, Nat.one_mul] at h
    generalize X / D * D = w at *
    have hc0 : c ≠ 0 := fun e0 => by
      subst e0
      rw [Nat.zero_mul] at h
      omega
    have hc1 : c < 2 := by
      rcases Nat.lt_or_ge c 2 with e0 | e0
      · exact e0
      · have : 2 * B9 ^ (n + 1) ≤ c * B9 ^ (n + 1) := Nat.mul_le_mul_right _ e0
        omega
    obtain rfl : c = 1 := by omega
    rw [Nat.one_mul] at h
    exact ⟨fun q => absurd q (by decide), fun _ => ⟨rfl, by omega⟩⟩
theorem kd_step {X D g V c k v t c' : Nat} (h : V + g * (D % B9 ^ k) = X % B9 ^ k + c * B9 ^ k) (ht : t = g * dg D k + c) (hv : v + t = dg X k + c' * B9) : V + v * B9 ^ k + g * (D % B9 ^ (k + 1)) = X % B9 ^ (k + 1) + c' * B9 ^ (k + 1) := by
  rw [mod_dg, mod_dg, B9_succ, Nat.mul_add, ← Nat.mul_assoc]
  generalize B9 ^ k = p at *
  generalize D % p = x1 at *
  generalize X % p = x2 at *
  generalize dg D k = x3 at *
  generalize dg X k = x4 at *
  have e1 : c' * (p * B9) = c' * B9 * p := by rw [Nat.mul_comm p, ← Nat.mul_assoc]
  have e2 : v * p + t * p = x4 * p + c' * B9 * p := by rw [← Nat.add_mul, ← Nat.add_mul, hv]
  have e3 : t * p = g * x3 * p + c * p := by rw [ht, Nat.add_mul]
  rw [e1]
  omega
set_option maxRecDepth 100000 in
set_option maxHeartbeats 4000000 in
theorem c_dig_1 (G : xG) (l : Launch) (o : Nat) (as : Nat → Nat) (M0 : xM) (N S : Nat) (d : Nat) (a t0 n T s2 two x0 q : Nat) (ha : a < 16) (ht1 : t0 + n < 400 * a + 400) (hn : 2 ≤ n) (σ : mS) (hT : 0 < T) (d1 : T < 1000000000) (d2 : s2 < 1000000000) (htwo : two < 1000000000000000000) (x3 : x0 < 1000000000) (hl3 : σ.2.1 14 (t0 + n - 2) = nI x0) (hq : q < 1000000000) (up : ∀ g, g < 1000000000 → g * (T * 1000000000 + s2) ≤ two * 1000000000 + x0 → g ≤ q + 1) (dn : ∀ g, two * 1000000000 + x0 < g * (T * 1000000000 + s2) → q < g) (Q : xPost) (M : xM) (hM : mAt o as σ M0 M)
    (hx : ∀ g rest, q ≤ g → g ≤ q + 1 → g < 1000000000 → xX G l YX9_digit d Q 128 [(0, .ref o), (1, .int (nI t0)), (2, .int (nI n)), (3, .long (lN T)), (5, .long (lN s2)), (7, .long (lN two)), (9, .long (lN g)), (11, .long (lN rest))] [] M N S) :
    ∀ g, q ≤ g → g * T ≤ two → xX G l YX9_digit d Q 68 [(0, .ref o), (1, .int (nI t0)), (2, .int (nI n)), (3, .long (lN T)), (5, .long (lN s2)), (7, .long (lN two)), (9, .long (lN g)), (11, .long (lN (two - g * T)))] [] M N S := by
  intro g
  induction g with
  | zero =>
    intro h1 h2
    have hgT : 0 * T = 0 := Nat.zero_mul T
    have hgs : 0 * s2 = 0 := Nat.zero_mul s2
    refine x_lload (q := 70) dX9_digit_68 rfl rfl ?_
    refine xn_ldc2 (q := 73) 1000000000 dX9_digit_70 rfl cwX9_100 ?_
    refine xn_lcmp_ge (q1 := 74) (q := 77) 113 dX9_digit_73 rfl dX9_digit_74 (by decide) rfl (by omega) (by omega) (fun hc73 => absurd hc73 (by omega)) (fun hc73 => ?_)
    refine x_lload (q := 79) dX9_digit_77 rfl rfl ?_
    refine xn_ldc2 (q := 82) 1000000000 dX9_digit_79 rfl cwX9_100 ?_
    refine xn_lcmp_ge (q1 := 83) (q := 86) 128 dX9_digit_82 rfl dX9_digit_83 (by decide) rfl (by omega) (by omega) (fun hc82 => ?_) (fun hc82 => ?_)
    · exact hx 0 _ h1 (by omega) (by omega)
    · refine x_lload (q := 88) dX9_digit_86 rfl rfl ?_
      refine x_lload (q := 90) dX9_digit_88 rfl rfl ?_
      refine xn_lmul (q := 91) dX9_digit_90 rfl ?_
      refine x_lload (q := 93) dX9_digit_91 rfl rfl ?_
      refine xn_ldc2 (q := 96) 1000000000 dX9_digit_93 rfl cwX9_100 ?_
      refine xn_lmul (q := 97) dX9_digit_96 rfl ?_
      refine x_aload_n (q := 98) dX9_digit_97 rfl rfl ?_
      refine m_get (q := 101) hM 14 fwX9_41 (by decide) dX9_digit_98 rfl rfl ?_
      refine x_iload_n (q := 102) dX9_digit_101 rfl rfl ?_
      refine x_iload_n (q := 103) dX9_digit_102 rfl rfl ?_
      refine xn_iadd (q := 104) dX9_digit_103 rfl ?_
      refine xn_iconst (q := 105) 2 dX9_digit_104 rfl (by decide) ?_
      refine xn_isub (q := 106) dX9_digit_105 rfl (by omega) ?_
      refine m_iald (q := 107) hM (n := 6400) (by decide) dX9_digit_106 rfl (by omega) ?_
      rw [hl3]
      refine xn_i2l (q := 108) dX9_digit_107 rfl (by omega) ?_
      refine xn_ladd (q := 109) dX9_digit_108 rfl ?_
      refine xn_lcmp_le (q1 := 110) (q := 113) 128 dX9_digit_109 rfl dX9_digit_110 (by decide) rfl (by omega) (by omega) (fun hc109 => ?_) (fun hc109 => ?_)
      · exact hx 0 _ h1 (by omega) (by omega)
      · refine x_lload (q := 115) dX9_digit_113 rfl rfl ?_
        refine xn_lconst (q := 116) 1 dX9_digit_115 rfl (by decide) ?_
        refine xn_lsub (q := 117) dX9_digit_116 rfl (by omega) ?_
        refine x_lstore (q := 119) (ls' := [(0, _), (1, _), (2, _), (3, _), (5, _), (7, _), (9, _), (11, _)]) [1, 2, 3, 4, 5, 6, 0, 7] dX9_digit_117 rfl (by decide) rfl ?_
        refine x_lload (q := 121) dX9_digit_119 rfl rfl ?_
        refine x_lload_n (q := 122) dX9_digit_121 rfl rfl ?_
        refine xn_ladd (q := 123) dX9_digit_122 rfl ?_
        refine x_lstore (q := 125) (ls' := [(0, _), (1, _), (2, _), (3, _), (5, _), (7, _), (9, _), (11, _)]) [1, 2, 3, 4, 5, 6, 7, 0] dX9_digit_123 rfl (by decide) rfl ?_
        refine x_goto 68 dX9_digit_125 (by decide) ?_
        exact absurd ‹_› (by omega)
  | succ g ih =>
    intro h1 h2
    have hg9 : g + 1 ≤ (g + 1) * T := Nat.le_mul_of_pos_right _ hT
    have hm2 : g + 1 < 1000000000 → (g + 1) * s2 < 1000000000000000000 := fun h => by
      have := mul_lt' h d2
      omega
    refine x_lload (q := 70) dX9_digit_68 rfl rfl ?_
    refine xn_ldc2 (q := 73) 1000000000 dX9_digit_70 rfl cwX9_100 ?_
    refine xn_lcmp_ge (q1 := 74) (q := 77) 113 dX9_digit_73 rfl dX9_digit_74 (by decide) rfl (by omega) (by omega) (fun hc73 => ?_) (fun hc73 => ?_)
    · refine x_lload (q := 115) dX9_digit_113 rfl rfl ?_
      refine xn_lconst (q := 116) 1 dX9_digit_115 rfl (by decide) ?_
      refine xn_lsub (q := 117) dX9_digit_116 rfl (by omega) ?_
      refine x_lstore (q := 119) (ls' := [(0, _), (1, _), (2, _), (3, _), (5, _), (7, _), (9, _), (11, _)]) [1, 2, 3, 4, 5, 6, 0, 7] dX9_digit_117 rfl (by decide) rfl ?_
      refine x_lload (q := 121) dX9_digit_119 rfl rfl ?_
      refine x_lload_n (q := 122) dX9_digit_121 rfl rfl ?_
      refine xn_ladd (q := 123) dX9_digit_122 rfl ?_
      refine x_lstore (q := 125) (ls' := [(0, _), (1, _), (2, _), (3, _), (5, _), (7, _), (9, _), (11, _)]) [1, 2, 3, 4, 5, 6, 7, 0] dX9_digit_123 rfl (by decide) rfl ?_
      refine x_goto 68 dX9_digit_125 (by decide) ?_
      have hq1 : q ≤ g := by
        first | omega | (have := dn (g + 1) (kd_aux h2 rfl hc109); omega)
      have e1 : (g + 1) * T = g * T + T := Nat.succ_mul g T
      have h5 := ih hq1 (by omega)
      rw [show two - g * T = two - (g + 1) * T + T by omega] at h5
      exact h5
    · refine x_lload (q := 79) dX9_digit_77 rfl rfl ?_
      refine xn_ldc2 (q := 82) 1000000000 dX9_digit_79 rfl cwX9_100 ?_
      refine xn_lcmp_ge (q1 := 83) (q := 86) 128 dX9_digit_82 rfl dX9_digit_83 (by decide) rfl (by omega) (by omega) (fun hc82 => ?_) (fun hc82 => ?_)
      · refine hx (g + 1) _ h1 (up (g + 1) (by omega) ?_) (by omega)
        rw [Nat.mul_add (g + 1) (T * 1000000000) s2, ← Nat.mul_assoc (g + 1) T 1000000000]
        omega
      · refine x_lload (q := 88) dX9_digit_86 rfl rfl ?_
        refine x_lload (q := 90) dX9_digit_88 rfl rfl ?_
        refine xn_lmul (q := 91) dX9_digit_90 rfl ?_
        refine x_lload (q := 93) dX9_digit_91 rfl rfl ?_
        refine xn_ldc2 (q := 96) 1000000000 dX9_digit_93 rfl cwX9_100 ?_
        refine xn_lmul (q := 97) dX9_digit_96 rfl ?_
        refine x_aload_n (q := 98) dX9_digit_97 rfl rfl ?_
        refine m_get (q := 101) hM 14 fwX9_41 (by decide) dX9_digit_98 rfl rfl ?_
        refine x_iload_n (q := 102) dX9_digit_101 rfl rfl ?_
        refine x_iload_n (q := 103) dX9_digit_102 rfl rfl ?_
        refine xn_iadd (q := 104) dX9_digit_103 rfl ?_
        refine xn_iconst (q := 105) 2 dX9_digit_104 rfl (by decide) ?_
        refine xn_isub (q := 106) dX9_digit_105 rfl (by omega) ?_
        refine m_iald (q := 107) hM (n := 6400) (by decide) dX9_digit_106 rfl (by omega) ?_
        rw [hl3]
        refine xn_i2l (q := 108) dX9_digit_107 rfl (by omega) ?_
        refine xn_ladd (q := 109) dX9_digit_108 rfl ?_
        refine xn_lcmp_le (q1 := 110) (q := 113) 128 dX9_digit_109 rfl dX9_digit_110 (by decide) rfl (by omega) (by omega) (fun hc109 => ?_) (fun hc109 => ?_)
        · refine hx (g + 1) _ h1 (up (g + 1) (by omega) ?_) (by omega)
          rw [Nat.mul_add (g + 1) (T * 1000000000) s2, ← Nat.mul_assoc (g + 1) T 1000000000]
          omega
        · refine x_lload (q := 115) dX9_digit_113 rfl rfl ?_
          refine xn_lconst (q := 116) 1 dX9_digit_115 rfl (by decide) ?_
          refine xn_lsub (q := 117) dX9_digit_116 rfl (by omega) ?_
          refine x_lstore (q := 119) (ls' := [(0, _), (1, _), (2, _), (3, _), (5, _), (7, _), (9, _), (11, _)]) [1, 2, 3, 4, 5, 6, 0, 7] dX9_digit_117 rfl (by decide) rfl ?_
          refine x_lload (q := 121) dX9_digit_119 rfl rfl ?_
          refine x_lload_n (q := 122) dX9_digit_121 rfl rfl ?_
          refine xn_ladd (q := 123) dX9_digit_122 rfl ?_
          refine x_lstore (q := 125) (ls' := [(0, _), (1, _), (2, _), (3, _), (5, _), (7, _), (9, _), (11, _)]) [1, 2, 3, 4, 5, 6, 7, 0] dX9_digit_123 rfl (by decide) rfl ?_
          refine x_goto 68 dX9_digit_125 (by decide) ?_
          have hq1 : q ≤ g := by
            first | omega | (have := dn (g + 1) (kd_aux h2 rfl hc109); omega)
          have e1 : (g + 1) * T = g * T + T := Nat.succ_mul g T
          have h5 := ih hq1 (by omega)
          rw [show two - g * T = two - (g + 1) * T + T by omega] at h5
          exact h5
end XD
