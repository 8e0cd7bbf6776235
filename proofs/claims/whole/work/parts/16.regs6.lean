section XR6
theorem small_step {A m c k : Nat} (h : A * m / B9 ^ k = A / B9 ^ k * m + c) : dg (A * m) k = (dg A k * m + c) % B9 ∧ A * m / B9 ^ (k + 1) = A / B9 ^ (k + 1) * m + (dg A k * m + c) / B9 := by
  have h1 := div_dg A k
  have h2 : A * m / B9 ^ k = A / B9 ^ (k + 1) * m * B9 + (dg A k * m + c) := by
    rw [h, h1, Nat.add_mul]
    generalize A / B9 ^ (k + 1) = x
    rw [Nat.mul_right_comm]
    omega
  rw [div_pow_succ (A * m)]
  unfold dg at *
  rw [h2]
  constructor
  · rw [Nat.add_comm, Nat.add_mul_mod_self_right]
  · rw [Nat.add_comm, Nat.add_mul_div_right _ _ (by decide), Nat.add_comm]
set_option maxRecDepth 100000 in
set_option maxHeartbeats 4000000 in
theorem c_msmall_loop (G : xG) (l : Launch) (o : Nat) (as : Nat → Nat) (M0 : xM) (N S : Nat) (d : Nat) (r : Nat) (hr : r < 16) (by0 : Int64) (A m na : Nat) (hm : m < 4000000000) (hna : A < B9 ^ na) (hn4 : na + 2 ≤ 400) (σ : mS) (hza : σ.2.1 15 r = nI na) (hla : ∀ j, j < na → σ.2.1 14 (400 * r + j) = nI (dg A j)) (Q : xPost)
    (hx : ∀ c σ' M, keep r σ σ' → σ'.2.1 16 = σ.2.1 16 → (∀ p, p < na + 2 → σ'.2.1 14 (400 * r + p) = nI (dg (A * m) p)) → mAt o as σ' M0 M → xX G l YX9_multiplySmall d Q 108 [(0, .ref o), (1, .int (nI r)), (2, .long by0), (4, .long (lN m)), (6, .long (lN c)), (8, .int (nI (na + 2))), (9, .int (nI (na + 2)))] [] M N S) :
    ∀ (u k : Nat), k + u = na + 2 → ∀ c σ' M, c ≤ m → A * m / B9 ^ k = A / B9 ^ k * m + c → keep r σ σ' → σ'.2.1 16 = σ.2.1 16 → σ'.2.1 15 = σ.2.1 15 → (∀ p, p < k → σ'.2.1 14 (400 * r + p) = nI (dg (A * m) p)) → (∀ p, k ≤ p → p < na → σ'.2.1 14 (400 * r + p) = nI (dg A p)) → mAt o as σ' M0 M → xX G l YX9_multiplySmall d Q 30 [(0, .ref o), (1, .int (nI r)), (2, .long by0), (4, .long (lN m)), (6, .long (lN c)), (8, .int (nI (na + 2))), (9, .int (nI k))] [] M N S := by
  intro u
  induction u with
  | zero =>
    intro k hk0 c σ' M hc hcd hk hg hz h1 h2 hM
    obtain rfl : k = na + 2 := by omega
    refine x_iload (q := 32) dX9_multiplySmall_30 rfl rfl ?_
    refine x_iload (q := 34) dX9_multiplySmall_32 rfl rfl ?_
    refine xn_icmp_ge (q := 37) 108 dX9_multiplySmall_34 (by decide) rfl (by omega) (by omega) (fun hc34 => ?_) (fun hc34 => absurd hc34 (by omega))
    exact hx c σ' M hk hg h1 hM
  | succ u ih =>
    intro k hk0 c σ' M hc hcd hk hg hz h1 h2 hM
    have hz' : σ'.2.1 15 r = nI na := by rw [hz]; exact hza
    have da : dg A k < 1000000000 := dg_lt A k
    have hla' : k < na → σ'.2.1 14 (400 * r + k) = nI (dg A k) := fun h => h2 k (Nat.le_refl _) h
    have hm9 : dg A k * m ≤ 999999999 * m := Nat.mul_le_mul_right _ (by omega)
    have hza0 : na ≤ k → dg A k = 0 := fun h => dg_hi (Nat.lt_of_lt_of_le hna (B9_mono h))
    refine x_iload (q := 32) dX9_multiplySmall_30 rfl rfl ?_
    refine x_iload (q := 34) dX9_multiplySmall_32 rfl rfl ?_
    refine xn_icmp_ge (q := 37) 108 dX9_multiplySmall_34 (by decide) rfl (by omega) (by omega) (fun hc34 => absurd hc34 (by omega)) (fun hc34 => ?_)
    refine x_iload (q := 39) dX9_multiplySmall_37 rfl rfl ?_
    refine x_aload_n (q := 40) dX9_multiplySmall_39 rfl rfl ?_
    refine m_get (q := 43) hM 15 fwX9_44 (by decide) dX9_multiplySmall_40 rfl rfl ?_
    refine x_iload_n (q := 44) dX9_multiplySmall_43 rfl rfl ?_
    refine m_iald (q := 45) hM (n := 16) (by decide) dX9_multiplySmall_44 rfl (by omega) ?_
    rw [hz']
    refine xn_icmp_ge (q := 48) 68 dX9_multiplySmall_45 (by decide) rfl (by omega) (by omega) (fun hc45 => ?_) (fun hc45 => ?_)
    · refine xn_lconst (q := 69) 0 dX9_multiplySmall_68 rfl (by decide) ?_
      refine x_lload (q := 71) dX9_multiplySmall_69 rfl rfl ?_
      refine xn_ladd (q := 72) dX9_multiplySmall_71 rfl ?_
      refine x_lstore (q := 74) (ls' := [(0, _), (1, _), (2, _), (4, _), (6, _), (8, _), (9, _), (10, _)]) [1, 2, 3, 4, 5, 6, 7, 0] dX9_multiplySmall_72 rfl (by decide) rfl ?_
      refine x_aload_n (q := 75) dX9_multiplySmall_74 rfl rfl ?_
      refine m_get (q := 78) hM 14 fwX9_41 (by decide) dX9_multiplySmall_75 rfl rfl ?_
      refine xn_sipush (q := 81) 400 dX9_multiplySmall_78 rfl (by decide) ?_
      refine x_iload_n (q := 82) dX9_multiplySmall_81 rfl rfl ?_
      refine xn_imul (q := 83) dX9_multiplySmall_82 rfl ?_
      refine x_iload (q := 85) dX9_multiplySmall_83 rfl rfl ?_
      refine xn_iadd (q := 86) dX9_multiplySmall_85 rfl ?_
      refine x_lload (q := 88) dX9_multiplySmall_86 rfl rfl ?_
      refine xn_ldc2 (q := 91) 1000000000 dX9_multiplySmall_88 rfl cwX9_100 ?_
      refine xn_lrem (q := 92) dX9_multiplySmall_91 rfl (by omega) (by omega) (by omega) ?_
      refine xn_l2i (q := 93) dX9_multiplySmall_92 rfl ?_
      refine m_limb (q := 94) hM r dX9_multiplySmall_93 rfl (by omega) (by omega) (by omega) (fun M σ93 k93 e93 f93 g93 i93 hM => ?_)
      refine x_lload (q := 96) dX9_multiplySmall_94 rfl rfl ?_
      refine xn_ldc2 (q := 99) 1000000000 dX9_multiplySmall_96 rfl cwX9_100 ?_
      refine xn_ldiv (q := 100) dX9_multiplySmall_99 rfl (by omega) (by omega) (by omega) ?_
      refine x_lstore (q := 102) (ls' := [(0, _), (1, _), (2, _), (4, _), (6, _), (8, _), (9, _), (10, _)]) [1, 2, 3, 4, 0, 5, 6, 7] dX9_multiplySmall_100 rfl (by decide) rfl ?_
      refine xn_iinc (q := 105) (ls' := [(0, _), (1, _), (2, _), (4, _), (6, _), (8, _), (9, _), (10, _)]) [1, 2, 3, 4, 5, 6, 0, 7] 1 dX9_multiplySmall_102 rfl rfl (by decide) (by decide) rfl ?_
      refine x_goto 30 dX9_multiplySmall_105 (by decide) ?_
      refine x_ls (ls' := [(0, _), (1, _), (2, _), (4, _), (6, _), (8, _), (9, _)]) [0, 1, 2, 3, 4, 5, 6] rfl ?_
      obtain ⟨s1, s2⟩ := small_step hcd
      have ev : ∀ x, x = dg A k * m → (σ93.2.1 14 (400 * r + k) = nI ((x + c) % 1000000000)) → xX G l YX9_multiplySmall d Q 30 [(0, .ref o), (1, .int (nI r)), (2, .long by0), (4, .long (lN m)), (6, .long (lN ((x + c) / 1000000000))), (8, .int (nI (na + 2))), (9, .int (nI (k + 1)))] [] M N S := by
        intro x hx0 e93'
        subst hx0
        refine ih (k + 1) (by omega) _ σ93 M (by omega) s2 (hk.trans k93) (i93.trans hg) (g93.trans hz) (fun p hp => ?_) (fun p hp hp2 => ?_) hM
        · by_cases e : p = k
          · rw [e, s1]; exact e93'
          · rw [f93 _ (by omega)]; exact h1 p (by omega)
        · rw [f93 _ (by omega)]; exact h2 p (by omega) hp2
      first | exact ev _ rfl e93 | exact ev 0 (by rw [hza0 hc45, Nat.zero_mul]) e93
    · refine x_aload_n (q := 49) dX9_multiplySmall_48 rfl rfl ?_
      refine m_get (q := 52) hM 14 fwX9_41 (by decide) dX9_multiplySmall_49 rfl rfl ?_
      refine xn_sipush (q := 55) 400 dX9_multiplySmall_52 rfl (by decide) ?_
      refine x_iload_n (q := 56) dX9_multiplySmall_55 rfl rfl ?_
      refine xn_imul (q := 57) dX9_multiplySmall_56 rfl ?_
      refine x_iload (q := 59) dX9_multiplySmall_57 rfl rfl ?_
      refine xn_iadd (q := 60) dX9_multiplySmall_59 rfl ?_
      refine m_iald (q := 61) hM (n := 6400) (by decide) dX9_multiplySmall_60 rfl (by omega) ?_
      rw [hla' hc45]
      refine xn_i2l (q := 62) dX9_multiplySmall_61 rfl (by omega) ?_
      refine x_lload (q := 64) dX9_multiplySmall_62 rfl rfl ?_
      refine xn_lmul (q := 65) dX9_multiplySmall_64 rfl ?_
      refine x_goto 69 dX9_multiplySmall_65 (by decide) ?_
      refine x_lload (q := 71) dX9_multiplySmall_69 rfl rfl ?_
      refine xn_ladd (q := 72) dX9_multiplySmall_71 rfl ?_
      refine x_lstore (q := 74) (ls' := [(0, _), (1, _), (2, _), (4, _), (6, _), (8, _), (9, _), (10, _)]) [1, 2, 3, 4, 5, 6, 7, 0] dX9_multiplySmall_72 rfl (by decide) rfl ?_
      refine x_aload_n (q := 75) dX9_multiplySmall_74 rfl rfl ?_
      refine m_get (q := 78) hM 14 fwX9_41 (by decide) dX9_multiplySmall_75 rfl rfl ?_
      refine xn_sipush (q := 81) 400 dX9_multiplySmall_78 rfl (by decide) ?_
      refine x_iload_n (q := 82) dX9_multiplySmall_81 rfl rfl ?_
      refine xn_imul (q := 83) dX9_multiplySmall_82 rfl ?_
      refine x_iload (q := 85) dX9_multiplySmall_83 rfl rfl ?_
      refine xn_iadd (q := 86) dX9_multiplySmall_85 rfl ?_
      refine x_lload (q := 88) dX9_multiplySmall_86 rfl rfl ?_
      refine xn_ldc2 (q := 91) 1000000000 dX9_multiplySmall_88 rfl cwX9_100 ?_
      refine xn_lrem (q := 92) dX9_multiplySmall_91 rfl (by omega) (by omega) (by omega) ?_
      refine xn_l2i (q := 93) dX9_multiplySmall_92 rfl ?_
      refine m_limb (q := 94) hM r dX9_multiplySmall_93 rfl (by omega) (by omega) (by omega) (fun M σ93 k93 e93 f93 g93 i93 hM => ?_)
      refine x_lload (q := 96) dX9_multiplySmall_94 rfl rfl ?_
      refine xn_ldc2 (q := 99) 1000000000 dX9_multiplySmall_96 rfl cwX9_100 ?_
      refine xn_ldiv (q := 100) dX9_multiplySmall_99 rfl (by omega) (by omega) (by omega) ?_
      refine x_lstore (q := 102) (ls' := [(0, _), (1, _), (2, _), (4, _), (6, _), (8, _), (9, _), (10, _)]) [1, 2, 3, 4, 0, 5, 6, 7] dX9_multiplySmall_100 rfl (by decide) rfl ?_
      refine xn_iinc (q := 105) (ls' := [(0, _), (1, _), (2, _), (4, _), (6, _), (8, _), (9, _), (10, _)]) [1, 2, 3, 4, 5, 6, 0, 7] 1 dX9_multiplySmall_102 rfl rfl (by decide) (by decide) rfl ?_
      refine x_goto 30 dX9_multiplySmall_105 (by decide) ?_
      refine x_ls (ls' := [(0, _), (1, _), (2, _), (4, _), (6, _), (8, _), (9, _)]) [0, 1, 2, 3, 4, 5, 6] rfl ?_
      obtain ⟨s1, s2⟩ := small_step hcd
      have ev : ∀ x, x = dg A k * m → (σ93.2.1 14 (400 * r + k) = nI ((x + c) % 1000000000)) → xX G l YX9_multiplySmall d Q 30 [(0, .ref o), (1, .int (nI r)), (2, .long by0), (4, .long (lN m)), (6, .long (lN ((x + c) / 1000000000))), (8, .int (nI (na + 2))), (9, .int (nI (k + 1)))] [] M N S := by
        intro x hx0 e93'
        subst hx0
        refine ih (k + 1) (by omega) _ σ93 M (by omega) s2 (hk.trans k93) (i93.trans hg) (g93.trans hz) (fun p hp => ?_) (fun p hp hp2 => ?_) hM
        · by_cases e : p = k
          · rw [e, s1]; exact e93'
          · rw [f93 _ (by omega)]; exact h1 p (by omega)
        · rw [f93 _ (by omega)]; exact h2 p (by omega) hp2
      first | exact ev _ rfl e93 | exact ev 0 (by rw [hza0 hc45, Nat.zero_mul]) e93
set_option maxRecDepth 100000 in
set_option maxHeartbeats 4000000 in
theorem c_multiplySmall (G : xG) (l : Launch) (o : Nat) (as : Nat → Nat) (M0 : xM) (N S : Nat) (d : Nat) (r : Nat) (hr : r < 16) (by0 : Int64) (z : Int) (hz : by0.toInt = z) (hz4 : z.natAbs < 4000000000) (σ : mS) (v : Int) (hv : Reg σ r v) (hV : v.natAbs < B9 ^ 398) : mC G l o as M0 N S YX9_multiplySmall (d + 1) [.int (nI r), .long by0] σ (fun x σ' => x = none ∧ keep r σ σ' ∧ Reg σ' r (v * z)) := by
  obtain ⟨na, hma4, hna, hza, hga, hla⟩ := hv
  have hn4 := nl_of_le hna hV
  have hlt : by0 < 0 ↔ z < 0 := by rw [Int64.lt_iff_toInt_lt, hz]; rfl
  have hge : 0 ≤ by0 ↔ 0 ≤ z := by rw [Int64.le_iff_toInt_le, hz]; rfl
  have heq : by0 = 0 ↔ z = 0 := ⟨fun h => by rw [← hz, h]; rfl, fun h => Int64.toInt_inj.mp (by rw [hz, h]; rfl)⟩
  have hAm : v.natAbs * z.natAbs < B9 ^ (na + 2) := by
    rw [Nat.pow_add]
    exact Nat.mul_lt_mul'' hna.1 (Nat.lt_of_lt_of_le hz4 (by decide))
  refine mC.of (ls := [(0, .ref o), (1, .int (nI r)), (2, .long by0)]) (by decide) (Nat.le_of_ble_eq_true rfl) rfl fun M hM => ?_
  have fin : ∀ (s : Int32) (σ1 : mS) (M : xM), (v * z ≠ 0 → s = sg (v * z)) → keep r σ σ1 → σ1.2.1 16 r = s → (∀ p, p < na + 2 → σ1.2.1 14 (400 * r + p) = nI (dg (v.natAbs * z.natAbs) p)) → mAt o as σ1 M0 M → ∀ c, xX G l YX9_multiplySmall (d + 1) (mQ o as M0 N S (fun x σ' => x = none ∧ keep r σ σ' ∧ Reg σ' r (v * z))) 146 [(0, .ref o), (1, .int (nI r)), (2, .long by0), (4, .long (lN z.natAbs)), (6, .long (lN c)), (8, .int (nI (na + 2))), (9, .int (nI (na + 2)))] [] M N S := by
    intro s σ1 M hs hk hs1 h1 hM c
    refine x_aload_n (q := 147) dX9_multiplySmall_146 rfl rfl ?_
    refine x_iload_n (q := 148) dX9_multiplySmall_147 rfl rfl ?_
    refine x_iload (q := 150) dX9_multiplySmall_148 rfl rfl ?_
    refine m_call (q := 153) (As := [_, _]) hM imX9_trim ivX9_trim ilX9_trim mwX9_103 xciX9 dX9_multiplySmall_150 rfl rfl rfl (by decide) ?_
    refine (c_trim G l o as M0 N S d r (na + 2) hr (by omega) σ1 (dg (v.natAbs * z.natAbs)) (v * z) (fun j _ => dg_lt _ _) h1 (by rw [val_dg hAm, Int.natAbs_mul]) (fun h => by rw [hs1]; exact hs h)).mono (fun x σ9 hp => ?_)
    obtain ⟨rfl, k9, r9⟩ := hp
    intro M hM
    show xX G l _ (d + 1) _ _ _ [] M N S
    exact x_vret rfl dX9_multiplySmall_153 (m_ret hM ⟨rfl, hk.trans k9, r9⟩)
  have loop : ∀ Q, (∀ c σ' M, keep r σ σ' → σ'.2.1 16 = σ.2.1 16 → (∀ p, p < na + 2 → σ'.2.1 14 (400 * r + p) = nI (dg (v.natAbs * z.natAbs) p)) → mAt o as σ' M0 M → xX G l YX9_multiplySmall (d + 1) Q 108 [(0, .ref o), (1, .int (nI r)), (2, .long by0), (4, .long (lN z.natAbs)), (6, .long (lN c)), (8, .int (nI (na + 2))), (9, .int (nI (na + 2)))] [] M N S) → ∀ M, mAt o as σ M0 M → xX G l YX9_multiplySmall (d + 1) Q 30 [(0, .ref o), (1, .int (nI r)), (2, .long by0), (4, .long (lN z.natAbs)), (6, .long (lN 0)), (8, .int (nI (na + 2))), (9, .int (nI 0))] [] M N S := fun Q hx M hM =>
    c_msmall_loop G l o as M0 N S (d + 1) r hr by0 v.natAbs z.natAbs na hz4 hna.1 (by omega) σ hza hla Q hx (na + 2) 0 (Nat.zero_add _) 0 σ M (Nat.zero_le _) (by rw [Nat.pow_zero, Nat.div_one, Nat.div_one, Nat.add_zero]) keep.rfl' rfl rfl (fun p h => absurd h (Nat.not_lt_zero p)) (fun p _ h => hla p h) hM
  rcases Int.lt_trichotomy z 0 with e | e | e
  · have hv : -by0 = lN z.natAbs := lN_of_neg hz e (by omega)
    refine x_lload_n (q := 1) dX9_multiplySmall_0 rfl rfl ?_
    refine x_lconst (q := 2) 0 dX9_multiplySmall_1 rfl (by decide) ?_
    refine x_lcmp_ge (q1 := 3) (q := 6) 11 dX9_multiplySmall_2 rfl dX9_multiplySmall_3 (by decide) rfl (fun hc2 => absurd (hge.mp hc2) (by omega)) (fun hc2 => ?_)
    refine x_lload_n (q := 7) dX9_multiplySmall_6 rfl rfl ?_
    refine x_lneg (q := 8) dX9_multiplySmall_7 rfl ?_
    refine x_topl hv ?_
    refine x_goto 12 dX9_multiplySmall_8 (by decide) ?_
    refine x_lstore (q := 14) (ls' := [(0, _), (1, _), (2, _), (4, _)]) [1, 2, 3, 0] dX9_multiplySmall_12 rfl (by decide) rfl ?_
    refine xn_lconst (q := 15) 0 dX9_multiplySmall_14 rfl (by decide) ?_
    refine x_lstore (q := 17) (ls' := [(0, _), (1, _), (2, _), (4, _), (6, _)]) [1, 2, 3, 4, 0] dX9_multiplySmall_15 rfl (by decide) rfl ?_
    refine x_aload_n (q := 18) dX9_multiplySmall_17 rfl rfl ?_
    refine m_get (q := 21) hM 15 fwX9_44 (by decide) dX9_multiplySmall_18 rfl rfl ?_
    refine x_iload_n (q := 22) dX9_multiplySmall_21 rfl rfl ?_
    refine m_iald (q := 23) hM (n := 16) (by decide) dX9_multiplySmall_22 rfl (by omega) ?_
    rw [hza]
    refine xn_iconst (q := 24) 2 dX9_multiplySmall_23 rfl (by decide) ?_
    refine xn_iadd (q := 25) dX9_multiplySmall_24 rfl ?_
    refine x_istore (q := 27) (ls' := [(0, _), (1, _), (2, _), (4, _), (6, _), (8, _)]) [1, 2, 3, 4, 5, 0] dX9_multiplySmall_25 rfl (by decide) rfl ?_
    refine xn_iconst (q := 28) 0 dX9_multiplySmall_27 rfl (by decide) ?_
    refine x_istore (q := 30) (ls' := [(0, _), (1, _), (2, _), (4, _), (6, _), (8, _), (9, _)]) [1, 2, 3, 4, 5, 6, 0] dX9_multiplySmall_28 rfl (by decide) rfl ?_
    refine loop _ (fun c σ2 M hk hg h1 hM => ?_) M hM
    have ga : σ2.2.1 16 r = sg v := by rw [hg]; exact hga
    refine x_aload_n (q := 109) dX9_multiplySmall_108 rfl rfl ?_
    refine m_get (q := 112) hM 16 fwX9_47 (by decide) dX9_multiplySmall_109 rfl rfl ?_
    refine x_iload_n (q := 113) dX9_multiplySmall_112 rfl rfl ?_
    refine x_lload_n (q := 114) dX9_multiplySmall_113 rfl rfl ?_
    refine x_lconst (q := 115) 0 dX9_multiplySmall_114 rfl (by decide) ?_
    refine x_lcmp_ge (q1 := 116) (q := 119) 129 dX9_multiplySmall_115 rfl dX9_multiplySmall_116 (by decide) rfl (fun hc115 => absurd (hge.mp hc115) (by omega)) (fun hc115 => ?_)
    refine x_aload_n (q := 120) dX9_multiplySmall_119 rfl rfl ?_
    refine m_get (q := 123) hM 16 fwX9_47 (by decide) dX9_multiplySmall_120 rfl rfl ?_
    refine x_iload_n (q := 124) dX9_multiplySmall_123 rfl rfl ?_
    refine m_iald (q := 125) hM (n := 16) (by decide) dX9_multiplySmall_124 rfl (by omega) ?_
    rw [ga]
    refine x_ineg (q := 126) dX9_multiplySmall_125 rfl ?_
    refine x_goto 145 dX9_multiplySmall_126 (by decide) ?_
    refine m_sign (q := 146) hM dX9_multiplySmall_145 rfl (by omega) (fun M σ145 k145 e145 f145 g145 hM => ?_)
    exact fin _ σ145 M (fun h0 => by rw [← sg_mul, sg_neg e]; rcases Int.lt_trichotomy v 0 with f | f | f <;> first | (rw [sg_neg f]; rfl) | (rw [f]; rfl) | (rw [sg_pos f]; rfl)) (hk.trans k145) e145 (fun p hp => by rw [f145]; exact h1 p hp) hM c
  · have hv : by0 = lN z.natAbs := lN_of_toInt hz (by omega)
    refine x_lload_n (q := 1) dX9_multiplySmall_0 rfl rfl ?_
    refine x_lconst (q := 2) 0 dX9_multiplySmall_1 rfl (by decide) ?_
    refine x_lcmp_ge (q1 := 3) (q := 6) 11 dX9_multiplySmall_2 rfl dX9_multiplySmall_3 (by decide) rfl (fun hc2 => ?_) (fun hc2 => absurd (hge.mpr (by omega)) hc2)
    refine x_lload_n (q := 12) dX9_multiplySmall_11 rfl rfl ?_
    refine x_topl hv ?_
    refine x_lstore (q := 14) (ls' := [(0, _), (1, _), (2, _), (4, _)]) [1, 2, 3, 0] dX9_multiplySmall_12 rfl (by decide) rfl ?_
    refine xn_lconst (q := 15) 0 dX9_multiplySmall_14 rfl (by decide) ?_
    refine x_lstore (q := 17) (ls' := [(0, _), (1, _), (2, _), (4, _), (6, _)]) [1, 2, 3, 4, 0] dX9_multiplySmall_15 rfl (by decide) rfl ?_
    refine x_aload_n (q := 18) dX9_multiplySmall_17 rfl rfl ?_
    refine m_get (q := 21) hM 15 fwX9_44 (by decide) dX9_multiplySmall_18 rfl rfl ?_
    refine x_iload_n (q := 22) dX9_multiplySmall_21 rfl rfl ?_
    refine m_iald (q := 23) hM (n := 16) (by decide) dX9_multiplySmall_22 rfl (by omega) ?_
    rw [hza]
    refine xn_iconst (q := 24) 2 dX9_multiplySmall_23 rfl (by decide) ?_
    refine xn_iadd (q := 25) dX9_multiplySmall_24 rfl ?_
    refine x_istore (q := 27) (ls' := [(0, _), (1, _), (2, _), (4, _), (6, _), (8, _)]) [1, 2, 3, 4, 5, 0] dX9_multiplySmall_25 rfl (by decide) rfl ?_
    refine xn_iconst (q := 28) 0 dX9_multiplySmall_27 rfl (by decide) ?_
    refine x_istore (q := 30) (ls' := [(0, _), (1, _), (2, _), (4, _), (6, _), (8, _), (9, _)]) [1, 2, 3, 4, 5, 6, 0] dX9_multiplySmall_28 rfl (by decide) rfl ?_
    refine loop _ (fun c σ2 M hk hg h1 hM => ?_) M hM
    have ga : σ2.2.1 16 r = sg v := by rw [hg]; exact hga
    refine x_aload_n (q := 109) dX9_multiplySmall_108 rfl rfl ?_
    refine m_get (q := 112) hM 16 fwX9_47 (by decide) dX9_multiplySmall_109 rfl rfl ?_
    refine x_iload_n (q := 113) dX9_multiplySmall_112 rfl rfl ?_
    refine x_lload_n (q := 114) dX9_multiplySmall_113 rfl rfl ?_
    refine x_lconst (q := 115) 0 dX9_multiplySmall_114 rfl (by decide) ?_
    refine x_lcmp_ge (q1 := 116) (q := 119) 129 dX9_multiplySmall_115 rfl dX9_multiplySmall_116 (by decide) rfl (fun hc115 => ?_) (fun hc115 => absurd (hge.mpr (by omega)) hc115)
    refine x_lload_n (q := 130) dX9_multiplySmall_129 rfl rfl ?_
    refine x_lconst (q := 131) 0 dX9_multiplySmall_130 rfl (by decide) ?_
    refine x_lcmp_ne (q1 := 132) (q := 135) 139 dX9_multiplySmall_131 rfl dX9_multiplySmall_132 (by decide) rfl (fun hc131 => absurd (heq.mpr e) hc131) (fun hc131 => ?_)
    refine xn_iconst (q := 136) 0 dX9_multiplySmall_135 rfl (by decide) ?_
    refine x_goto 145 dX9_multiplySmall_136 (by decide) ?_
    refine m_sign (q := 146) hM dX9_multiplySmall_145 rfl (by omega) (fun M σ145 k145 e145 f145 g145 hM => ?_)
    exact fin _ σ145 M (fun h0 => absurd (by rw [e, Int.mul_zero]) h0) (hk.trans k145) e145 (fun p hp => by rw [f145]; exact h1 p hp) hM c
  · have hv : by0 = lN z.natAbs := lN_of_toInt hz (by omega)
    refine x_lload_n (q := 1) dX9_multiplySmall_0 rfl rfl ?_
    refine x_lconst (q := 2) 0 dX9_multiplySmall_1 rfl (by decide) ?_
    refine x_lcmp_ge (q1 := 3) (q := 6) 11 dX9_multiplySmall_2 rfl dX9_multiplySmall_3 (by decide) rfl (fun hc2 => ?_) (fun hc2 => absurd (hge.mpr (by omega)) hc2)
    refine x_lload_n (q := 12) dX9_multiplySmall_11 rfl rfl ?_
    refine x_topl hv ?_
    refine x_lstore (q := 14) (ls' := [(0, _), (1, _), (2, _), (4, _)]) [1, 2, 3, 0] dX9_multiplySmall_12 rfl (by decide) rfl ?_
    refine xn_lconst (q := 15) 0 dX9_multiplySmall_14 rfl (by decide) ?_
    refine x_lstore (q := 17) (ls' := [(0, _), (1, _), (2, _), (4, _), (6, _)]) [1, 2, 3, 4, 0] dX9_multiplySmall_15 rfl (by decide) rfl ?_
    refine x_aload_n (q := 18) dX9_multiplySmall_17 rfl rfl ?_
    refine m_get (q := 21) hM 15 fwX9_44 (by decide) dX9_multiplySmall_18 rfl rfl ?_
    refine x_iload_n (q := 22) dX9_multiplySmall_21 rfl rfl ?_
    refine m_iald (q := 23) hM (n := 16) (by decide) dX9_multiplySmall_22 rfl (by omega) ?_
    rw [hza]
    refine xn_iconst (q := 24) 2 dX9_multiplySmall_23 rfl (by decide) ?_
    refine xn_iadd (q := 25) dX9_multiplySmall_24 rfl ?_
    refine x_istore (q := 27) (ls' := [(0, _), (1, _), (2, _), (4, _), (6, _), (8, _)]) [1, 2, 3, 4, 5, 0] dX9_multiplySmall_25 rfl (by decide) rfl ?_
    refine xn_iconst (q := 28) 0 dX9_multiplySmall_27 rfl (by decide) ?_
    refine x_istore (q := 30) (ls' := [(0, _), (1, _), (2, _), (4, _), (6, _), (8, _), (9, _)]) [1, 2, 3, 4, 5, 6, 0] dX9_multiplySmall_28 rfl (by decide) rfl ?_
    refine loop _ (fun c σ2 M hk hg h1 hM => ?_) M hM
    have ga : σ2.2.1 16 r = sg v := by rw [hg]; exact hga
    refine x_aload_n (q := 109) dX9_multiplySmall_108 rfl rfl ?_
    refine m_get (q := 112) hM 16 fwX9_47 (by decide) dX9_multiplySmall_109 rfl rfl ?_
    refine x_iload_n (q := 113) dX9_multiplySmall_112 rfl rfl ?_
    refine x_lload_n (q := 114) dX9_multiplySmall_113 rfl rfl ?_
    refine x_lconst (q := 115) 0 dX9_multiplySmall_114 rfl (by decide) ?_
    refine x_lcmp_ge (q1 := 116) (q := 119) 129 dX9_multiplySmall_115 rfl dX9_multiplySmall_116 (by decide) rfl (fun hc115 => ?_) (fun hc115 => absurd (hge.mpr (by omega)) hc115)
    refine x_lload_n (q := 130) dX9_multiplySmall_129 rfl rfl ?_
    refine x_lconst (q := 131) 0 dX9_multiplySmall_130 rfl (by decide) ?_
    refine x_lcmp_ne (q1 := 132) (q := 135) 139 dX9_multiplySmall_131 rfl dX9_multiplySmall_132 (by decide) rfl (fun hc131 => ?_) (fun hc131 => absurd (heq.mp hc131) (by omega))
    refine x_aload_n (q := 140) dX9_multiplySmall_139 rfl rfl ?_
    refine m_get (q := 143) hM 16 fwX9_47 (by decide) dX9_multiplySmall_140 rfl rfl ?_
    refine x_iload_n (q := 144) dX9_multiplySmall_143 rfl rfl ?_
    refine m_iald (q := 145) hM (n := 16) (by decide) dX9_multiplySmall_144 rfl (by omega) ?_
    rw [ga]
    refine m_sign (q := 146) hM dX9_multiplySmall_145 rfl (by omega) (fun M σ145 k145 e145 f145 g145 hM => ?_)
    exact fin _ σ145 M (fun h0 => by rw [← sg_mul, sg_pos e]; exact (Int32.mul_one _).symm) (hk.trans k145) e145 (fun p hp => by rw [f145]; exact h1 p hp) hM c
end XR6
