section XR3
set_option maxRecDepth 100000 in
set_option maxHeartbeats 4000000 in
theorem c_together_loop (G : xG) (l : Launch) (o : Nat) (as : Nat → Nat) (M0 : xM) (N S : Nat) (d : Nat) (a b t : Nat) (ha : a < 16) (hb : b < 16) (ht : t < 16) (hat : a ≠ t) (hbt : b ≠ t) (σ : mS) (va vb : Int) (na nb : Nat) (hna : nl va.natAbs na) (hnb : nl vb.natAbs nb) (hza : σ.2.1 15 a = nI na) (hzb : σ.2.1 15 b = nI nb) (hla : ∀ j, j < na → σ.2.1 14 (400 * a + j) = nI (dg va.natAbs j)) (hlb : ∀ j, j < nb → σ.2.1 14 (400 * b + j) = nI (dg vb.natAbs j)) (hna4 : na ≤ 400) (hnb4 : nb ≤ 400) (m : Nat) (hm : m ≤ 400) (Q : xPost)
    (hx : ∀ c σ' M, keep t σ σ' → σ'.2.1 16 = σ.2.1 16 → (∀ j, j < m → σ'.2.1 14 (400 * t + j) = nI (dg (va.natAbs + vb.natAbs) j)) → mAt o as σ' M0 M → xX G l YX9_together d Q 150 [(0, .ref o), (1, .int (nI a)), (2, .int (nI b)), (3, .int (nI t)), (4, .int (nI m)), (5, .int (nI c)), (6, .int (nI m))] [] M N S) :
    ∀ (u i : Nat), i + u = m → ∀ σ' M, keep t σ σ' → σ'.2.1 16 = σ.2.1 16 → (∀ j, j < i → σ'.2.1 14 (400 * t + j) = nI (dg (va.natAbs + vb.natAbs) j)) → mAt o as σ' M0 M → xX G l YX9_together d Q 40 [(0, .ref o), (1, .int (nI a)), (2, .int (nI b)), (3, .int (nI t)), (4, .int (nI m)), (5, .int (nI (cy va.natAbs vb.natAbs i))), (6, .int (nI i))] [] M N S := by
  intro u
  induction u with
  | zero =>
    intro i hi σ' M hk hg hj hM
    obtain rfl : i = m := by omega
    refine x_iload (q := 42) dX9_together_40 rfl rfl ?_
    refine x_iload (q := 44) dX9_together_42 rfl rfl ?_
    refine xn_icmp_ge (q := 47) 150 dX9_together_44 (by decide) rfl (by omega) (by omega) (fun hc44 => ?_) (fun hc44 => absurd hc44 (by omega))
    exact hx _ σ' M hk hg hj hM
  | succ u ih =>
    intro i hi σ' M hk hg hj hM
    have hB9 : B9 = 1000000000 := rfl
    have hza' : σ'.2.1 15 a = nI na := (hk.2.2.2.1 a hat).1.trans hza
    have hzb' : σ'.2.1 15 b = nI nb := (hk.2.2.2.1 b hbt).1.trans hzb
    have hda := dg_lt va.natAbs i
    have hdb := dg_lt vb.natAbs i
    obtain ⟨hs1, hs2⟩ := cy_step va.natAbs vb.natAbs i
    have hs1 : dg (va.natAbs + vb.natAbs) i = (cy va.natAbs vb.natAbs i + dg va.natAbs i + dg vb.natAbs i) % 1000000000 := hs1
    have hs2 : cy va.natAbs vb.natAbs (i + 1) = (cy va.natAbs vb.natAbs i + dg va.natAbs i + dg vb.natAbs i) / 1000000000 := hs2
    have hcl := cy_le va.natAbs vb.natAbs i
    have hla' : i < na → σ'.2.1 14 (400 * a + i) = nI (dg va.natAbs i) := fun h => (hk.2.2.2.2 _ (by omega)).trans (hla i h)
    have hlb' : i < nb → σ'.2.1 14 (400 * b + i) = nI (dg vb.natAbs i) := fun h => (hk.2.2.2.2 _ (by omega)).trans (hlb i h)
    have hza0 : na ≤ i → dg va.natAbs i = 0 := fun h => dg_hi (Nat.lt_of_lt_of_le hna.1 (B9_mono h))
    have hzb0 : nb ≤ i → dg vb.natAbs i = 0 := fun h => dg_hi (Nat.lt_of_lt_of_le hnb.1 (B9_mono h))
    refine x_iload (q := 42) dX9_together_40 rfl rfl ?_
    refine x_iload (q := 44) dX9_together_42 rfl rfl ?_
    refine xn_icmp_ge (q := 47) 150 dX9_together_44 (by decide) rfl (by omega) (by omega) (fun hc44 => absurd hc44 (by omega)) (fun hc44 => ?_)
    refine x_iload (q := 49) dX9_together_47 rfl rfl ?_
    refine x_iload (q := 51) dX9_together_49 rfl rfl ?_
    refine x_aload_n (q := 52) dX9_together_51 rfl rfl ?_
    refine m_get (q := 55) hM 15 fwX9_44 (by decide) dX9_together_52 rfl rfl ?_
    refine x_iload_n (q := 56) dX9_together_55 rfl rfl ?_
    refine m_iald (q := 57) hM (n := 16) (by decide) dX9_together_56 rfl (by omega) ?_
    rw [hza']
    refine xn_icmp_ge (q := 60) 76 dX9_together_57 (by decide) rfl (by omega) (by omega) (fun hc57 => ?_) (fun hc57 => ?_)
    · refine xn_iconst (q := 77) 0 dX9_together_76 rfl (by decide) ?_
      refine xn_iadd (q := 78) dX9_together_77 rfl ?_
      refine x_iload (q := 80) dX9_together_78 rfl rfl ?_
      refine x_aload_n (q := 81) dX9_together_80 rfl rfl ?_
      refine m_get (q := 84) hM 15 fwX9_44 (by decide) dX9_together_81 rfl rfl ?_
      refine x_iload_n (q := 85) dX9_together_84 rfl rfl ?_
      refine m_iald (q := 86) hM (n := 16) (by decide) dX9_together_85 rfl (by omega) ?_
      rw [hzb']
      refine xn_icmp_ge (q := 89) 105 dX9_together_86 (by decide) rfl (by omega) (by omega) (fun hc86 => ?_) (fun hc86 => ?_)
      · refine xn_iconst (q := 106) 0 dX9_together_105 rfl (by decide) ?_
        refine xn_iadd (q := 107) dX9_together_106 rfl ?_
        refine x_istore (q := 109) (ls' := [(0, _), (1, _), (2, _), (3, _), (4, _), (5, _), (6, _), (7, _)]) [1, 2, 3, 4, 5, 6, 7, 0] dX9_together_107 rfl (by decide) rfl ?_
        refine x_iload (q := 111) dX9_together_109 rfl rfl ?_
        refine xn_ldc (q := 113) 1000000000 dX9_together_111 rfl cwX9_102 ?_
        refine xn_icmp_lt (q := 116) 120 dX9_together_113 (by decide) rfl (by omega) (by omega) (fun hc113 => ?_) (fun hc113 => ?_)
        · refine xn_iconst (q := 121) 0 dX9_together_120 rfl (by decide) ?_
          refine x_istore (q := 123) (ls' := [(0, _), (1, _), (2, _), (3, _), (4, _), (5, _), (6, _), (7, _)]) [1, 2, 3, 4, 5, 0, 6, 7] dX9_together_121 rfl (by decide) rfl ?_
          refine x_aload_n (q := 124) dX9_together_123 rfl rfl ?_
          refine m_get (q := 127) hM 14 fwX9_41 (by decide) dX9_together_124 rfl rfl ?_
          refine xn_sipush (q := 130) 400 dX9_together_127 rfl (by decide) ?_
          refine x_iload_n (q := 131) dX9_together_130 rfl rfl ?_
          refine xn_imul (q := 132) dX9_together_131 rfl ?_
          refine x_iload (q := 134) dX9_together_132 rfl rfl ?_
          refine xn_iadd (q := 135) dX9_together_134 rfl ?_
          refine x_iload (q := 137) dX9_together_135 rfl rfl ?_
          refine x_iload (q := 139) dX9_together_137 rfl rfl ?_
          refine xn_ldc (q := 141) 1000000000 dX9_together_139 rfl cwX9_102 ?_
          refine xn_imul (q := 142) dX9_together_141 rfl ?_
          refine x_topi (y := nI 0) rfl ?_
          refine xn_isub (q := 143) dX9_together_142 rfl (by omega) ?_
          refine m_limb (q := 144) hM t dX9_together_143 rfl (by omega) (by omega) (by omega) (fun M σ143 k143 e143 f143 g143 i143 hM => ?_)
          refine xn_iinc (q := 147) (ls' := [(0, _), (1, _), (2, _), (3, _), (4, _), (5, _), (6, _), (7, _)]) [1, 2, 3, 4, 5, 6, 0, 7] 1 dX9_together_144 rfl rfl (by decide) (by decide) rfl ?_
          refine x_goto 40 dX9_together_147 (by decide) ?_
          refine x_ls (ls' := [(0, _), (1, _), (2, _), (3, _), (4, _), (5, _), (6, _)]) [0, 1, 2, 3, 4, 5, 6] rfl ?_
          have hza1 := hza0
          have hzb1 := hzb0
          have hcc : cy va.natAbs vb.natAbs (i + 1) = 0 := by omega
          have h5 := ih (i + 1) (by omega) σ143 M (hk.trans k143) (i143.trans hg) (fun j hjj => ?_) hM
          · rw [hcc] at h5; exact h5
          · by_cases e : j = i
            · subst e; rw [e143]; exact congrArg nI (by omega)
            · rw [f143 _ (by omega)]; exact hj j (by omega)
        · refine xn_iconst (q := 117) 1 dX9_together_116 rfl (by decide) ?_
          refine x_goto 121 dX9_together_117 (by decide) ?_
          refine x_istore (q := 123) (ls' := [(0, _), (1, _), (2, _), (3, _), (4, _), (5, _), (6, _), (7, _)]) [1, 2, 3, 4, 5, 0, 6, 7] dX9_together_121 rfl (by decide) rfl ?_
          refine x_aload_n (q := 124) dX9_together_123 rfl rfl ?_
          refine m_get (q := 127) hM 14 fwX9_41 (by decide) dX9_together_124 rfl rfl ?_
          refine xn_sipush (q := 130) 400 dX9_together_127 rfl (by decide) ?_
          refine x_iload_n (q := 131) dX9_together_130 rfl rfl ?_
          refine xn_imul (q := 132) dX9_together_131 rfl ?_
          refine x_iload (q := 134) dX9_together_132 rfl rfl ?_
          refine xn_iadd (q := 135) dX9_together_134 rfl ?_
          refine x_iload (q := 137) dX9_together_135 rfl rfl ?_
          refine x_iload (q := 139) dX9_together_137 rfl rfl ?_
          refine xn_ldc (q := 141) 1000000000 dX9_together_139 rfl cwX9_102 ?_
          refine xn_imul (q := 142) dX9_together_141 rfl ?_
          refine x_topi (y := nI 1000000000) rfl ?_
          refine xn_isub (q := 143) dX9_together_142 rfl (by omega) ?_
          refine m_limb (q := 144) hM t dX9_together_143 rfl (by omega) (by omega) (by omega) (fun M σ143 k143 e143 f143 g143 i143 hM => ?_)
          refine xn_iinc (q := 147) (ls' := [(0, _), (1, _), (2, _), (3, _), (4, _), (5, _), (6, _), (7, _)]) [1, 2, 3, 4, 5, 6, 0, 7] 1 dX9_together_144 rfl rfl (by decide) (by decide) rfl ?_
          refine x_goto 40 dX9_together_147 (by decide) ?_
          refine x_ls (ls' := [(0, _), (1, _), (2, _), (3, _), (4, _), (5, _), (6, _)]) [0, 1, 2, 3, 4, 5, 6] rfl ?_
          have hza1 := hza0
          have hzb1 := hzb0
          have hcc : cy va.natAbs vb.natAbs (i + 1) = 1 := by omega
          have h5 := ih (i + 1) (by omega) σ143 M (hk.trans k143) (i143.trans hg) (fun j hjj => ?_) hM
          · rw [hcc] at h5; exact h5
          · by_cases e : j = i
            · subst e; rw [e143]; exact congrArg nI (by omega)
            · rw [f143 _ (by omega)]; exact hj j (by omega)
      · refine x_aload_n (q := 90) dX9_together_89 rfl rfl ?_
        refine m_get (q := 93) hM 14 fwX9_41 (by decide) dX9_together_90 rfl rfl ?_
        refine xn_sipush (q := 96) 400 dX9_together_93 rfl (by decide) ?_
        refine x_iload_n (q := 97) dX9_together_96 rfl rfl ?_
        refine xn_imul (q := 98) dX9_together_97 rfl ?_
        refine x_iload (q := 100) dX9_together_98 rfl rfl ?_
        refine xn_iadd (q := 101) dX9_together_100 rfl ?_
        refine m_iald (q := 102) hM (n := 6400) (by decide) dX9_together_101 rfl (by omega) ?_
        rw [hlb' hc86]
        refine x_goto 106 dX9_together_102 (by decide) ?_
        refine xn_iadd (q := 107) dX9_together_106 rfl ?_
        refine x_istore (q := 109) (ls' := [(0, _), (1, _), (2, _), (3, _), (4, _), (5, _), (6, _), (7, _)]) [1, 2, 3, 4, 5, 6, 7, 0] dX9_together_107 rfl (by decide) rfl ?_
        refine x_iload (q := 111) dX9_together_109 rfl rfl ?_
        refine xn_ldc (q := 113) 1000000000 dX9_together_111 rfl cwX9_102 ?_
        refine xn_icmp_lt (q := 116) 120 dX9_together_113 (by decide) rfl (by omega) (by omega) (fun hc113 => ?_) (fun hc113 => ?_)
        · refine xn_iconst (q := 121) 0 dX9_together_120 rfl (by decide) ?_
          refine x_istore (q := 123) (ls' := [(0, _), (1, _), (2, _), (3, _), (4, _), (5, _), (6, _), (7, _)]) [1, 2, 3, 4, 5, 0, 6, 7] dX9_together_121 rfl (by decide) rfl ?_
          refine x_aload_n (q := 124) dX9_together_123 rfl rfl ?_
          refine m_get (q := 127) hM 14 fwX9_41 (by decide) dX9_together_124 rfl rfl ?_
          refine xn_sipush (q := 130) 400 dX9_together_127 rfl (by decide) ?_
          refine x_iload_n (q := 131) dX9_together_130 rfl rfl ?_
          refine xn_imul (q := 132) dX9_together_131 rfl ?_
          refine x_iload (q := 134) dX9_together_132 rfl rfl ?_
          refine xn_iadd (q := 135) dX9_together_134 rfl ?_
          refine x_iload (q := 137) dX9_together_135 rfl rfl ?_
          refine x_iload (q := 139) dX9_together_137 rfl rfl ?_
          refine xn_ldc (q := 141) 1000000000 dX9_together_139 rfl cwX9_102 ?_
          refine xn_imul (q := 142) dX9_together_141 rfl ?_
          refine x_topi (y := nI 0) rfl ?_
          refine xn_isub (q := 143) dX9_together_142 rfl (by omega) ?_
          refine m_limb (q := 144) hM t dX9_together_143 rfl (by omega) (by omega) (by omega) (fun M σ143 k143 e143 f143 g143 i143 hM => ?_)
          refine xn_iinc (q := 147) (ls' := [(0, _), (1, _), (2, _), (3, _), (4, _), (5, _), (6, _), (7, _)]) [1, 2, 3, 4, 5, 6, 0, 7] 1 dX9_together_144 rfl rfl (by decide) (by decide) rfl ?_
          refine x_goto 40 dX9_together_147 (by decide) ?_
          refine x_ls (ls' := [(0, _), (1, _), (2, _), (3, _), (4, _), (5, _), (6, _)]) [0, 1, 2, 3, 4, 5, 6] rfl ?_
          have hza1 := hza0
          have hzb1 := hzb0
          have hcc : cy va.natAbs vb.natAbs (i + 1) = 0 := by omega
          have h5 := ih (i + 1) (by omega) σ143 M (hk.trans k143) (i143.trans hg) (fun j hjj => ?_) hM
          · rw [hcc] at h5; exact h5
          · by_cases e : j = i
            · subst e; rw [e143]; exact congrArg nI (by omega)
            · rw [f143 _ (by omega)]; exact hj j (by omega)
        · refine xn_iconst (q := 117) 1 dX9_together_116 rfl (by decide) ?_
          refine x_goto 121 dX9_together_117 (by decide) ?_
          refine x_istore (q := 123) (ls' := [(0, _), (1, _), (2, _), (3, _), (4, _), (5, _), (6, _), (7, _)]) [1, 2, 3, 4, 5, 0, 6, 7] dX9_together_121 rfl (by decide) rfl ?_
          refine x_aload_n (q := 124) dX9_together_123 rfl rfl ?_
          refine m_get (q := 127) hM 14 fwX9_41 (by decide) dX9_together_124 rfl rfl ?_
          refine xn_sipush (q := 130) 400 dX9_together_127 rfl (by decide) ?_
          refine x_iload_n (q := 131) dX9_together_130 rfl rfl ?_
          refine xn_imul (q := 132) dX9_together_131 rfl ?_
          refine x_iload (q := 134) dX9_together_132 rfl rfl ?_
          refine xn_iadd (q := 135) dX9_together_134 rfl ?_
          refine x_iload (q := 137) dX9_together_135 rfl rfl ?_
          refine x_iload (q := 139) dX9_together_137 rfl rfl ?_
          refine xn_ldc (q := 141) 1000000000 dX9_together_139 rfl cwX9_102 ?_
          refine xn_imul (q := 142) dX9_together_141 rfl ?_
          refine x_topi (y := nI 1000000000) rfl ?_
          refine xn_isub (q := 143) dX9_together_142 rfl (by omega) ?_
          refine m_limb (q := 144) hM t dX9_together_143 rfl (by omega) (by omega) (by omega) (fun M σ143 k143 e143 f143 g143 i143 hM => ?_)
          refine xn_iinc (q := 147) (ls' := [(0, _), (1, _), (2, _), (3, _), (4, _), (5, _), (6, _), (7, _)]) [1, 2, 3, 4, 5, 6, 0, 7] 1 dX9_together_144 rfl rfl (by decide) (by decide) rfl ?_
          refine x_goto 40 dX9_together_147 (by decide) ?_
          refine x_ls (ls' := [(0, _), (1, _), (2, _), (3, _), (4, _), (5, _), (6, _)]) [0, 1, 2, 3, 4, 5, 6] rfl ?_
          have hza1 := hza0
          have hzb1 := hzb0
          have hcc : cy va.natAbs vb.natAbs (i + 1) = 1 := by omega
          have h5 := ih (i + 1) (by omega) σ143 M (hk.trans k143) (i143.trans hg) (fun j hjj => ?_) hM
          · rw [hcc] at h5; exact h5
          · by_cases e : j = i
            · subst e; rw [e143]; exact congrArg nI (by omega)
            · rw [f143 _ (by omega)]; exact hj j (by omega)
    · refine x_aload_n (q := 61) dX9_together_60 rfl rfl ?_
      refine m_get (q := 64) hM 14 fwX9_41 (by decide) dX9_together_61 rfl rfl ?_
      refine xn_sipush (q := 67) 400 dX9_together_64 rfl (by decide) ?_
      refine x_iload_n (q := 68) dX9_together_67 rfl rfl ?_
      refine xn_imul (q := 69) dX9_together_68 rfl ?_
      refine x_iload (q := 71) dX9_together_69 rfl rfl ?_
      refine xn_iadd (q := 72) dX9_together_71 rfl ?_
      refine m_iald (q := 73) hM (n := 6400) (by decide) dX9_together_72 rfl (by omega) ?_
      rw [hla' hc57]
      refine x_goto 77 dX9_together_73 (by decide) ?_
      refine xn_iadd (q := 78) dX9_together_77 rfl ?_
      refine x_iload (q := 80) dX9_together_78 rfl rfl ?_
      refine x_aload_n (q := 81) dX9_together_80 rfl rfl ?_
      refine m_get (q := 84) hM 15 fwX9_44 (by decide) dX9_together_81 rfl rfl ?_
      refine x_iload_n (q := 85) dX9_together_84 rfl rfl ?_
      refine m_iald (q := 86) hM (n := 16) (by decide) dX9_together_85 rfl (by omega) ?_
      rw [hzb']
      refine xn_icmp_ge (q := 89) 105 dX9_together_86 (by decide) rfl (by omega) (by omega) (fun hc86 => ?_) (fun hc86 => ?_)
      · refine xn_iconst (q := 106) 0 dX9_together_105 rfl (by decide) ?_
        refine xn_iadd (q := 107) dX9_together_106 rfl ?_
        refine x_istore (q := 109) (ls' := [(0, _), (1, _), (2, _), (3, _), (4, _), (5, _), (6, _), (7, _)]) [1, 2, 3, 4, 5, 6, 7, 0] dX9_together_107 rfl (by decide) rfl ?_
        refine x_iload (q := 111) dX9_together_109 rfl rfl ?_
        refine xn_ldc (q := 113) 1000000000 dX9_together_111 rfl cwX9_102 ?_
        refine xn_icmp_lt (q := 116) 120 dX9_together_113 (by decide) rfl (by omega) (by omega) (fun hc113 => ?_) (fun hc113 => ?_)
        · refine xn_iconst (q := 121) 0 dX9_together_120 rfl (by decide) ?_
          refine x_istore (q := 123) (ls' := [(0, _), (1, _), (2, _), (3, _), (4, _), (5, _), (6, _), (7, _)]) [1, 2, 3, 4, 5, 0, 6, 7] dX9_together_121 rfl (by decide) rfl ?_
          refine x_aload_n (q := 124) dX9_together_123 rfl rfl ?_
          refine m_get (q := 127) hM 14 fwX9_41 (by decide) dX9_together_124 rfl rfl ?_
          refine xn_sipush (q := 130) 400 dX9_together_127 rfl (by decide) ?_
          refine x_iload_n (q := 131) dX9_together_130 rfl rfl ?_
          refine xn_imul (q := 132) dX9_together_131 rfl ?_
          refine x_iload (q := 134) dX9_together_132 rfl rfl ?_
          refine xn_iadd (q := 135) dX9_together_134 rfl ?_
          refine x_iload (q := 137) dX9_together_135 rfl rfl ?_
          refine x_iload (q := 139) dX9_together_137 rfl rfl ?_
          refine xn_ldc (q := 141) 1000000000 dX9_together_139 rfl cwX9_102 ?_
          refine xn_imul (q := 142) dX9_together_141 rfl ?_
          refine x_topi (y := nI 0) rfl ?_
          refine xn_isub (q := 143) dX9_together_142 rfl (by omega) ?_
          refine m_limb (q := 144) hM t dX9_together_143 rfl (by omega) (by omega) (by omega) (fun M σ143 k143 e143 f143 g143 i143 hM => ?_)
          refine xn_iinc (q := 147) (ls' := [(0, _), (1, _), (2, _), (3, _), (4, _), (5, _), (6, _), (7, _)]) [1, 2, 3, 4, 5, 6, 0, 7] 1 dX9_together_144 rfl rfl (by decide) (by decide) rfl ?_
          refine x_goto 40 dX9_together_147 (by decide) ?_
          refine x_ls (ls' := [(0, _), (1, _), (2, _), (3, _), (4, _), (5, _), (6, _)]) [0, 1, 2, 3, 4, 5, 6] rfl ?_
          have hza1 := hza0
          have hzb1 := hzb0
          have hcc : cy va.natAbs vb.natAbs (i + 1) = 0 := by omega
          have h5 := ih (i + 1) (by omega) σ143 M (hk.trans k143) (i143.trans hg) (fun j hjj => ?_) hM
          · rw [hcc] at h5; exact h5
          · by_cases e : j = i
            · subst e; rw [e143]; exact congrArg nI (by omega)
            · rw [f143 _ (by omega)]; exact hj j (by omega)
        · refine xn_iconst (q := 117) 1 dX9_together_116 rfl (by decide) ?_
          refine x_goto 121 dX9_together_117 (by decide) ?_
          refine x_istore (q := 123) (ls' := [(0, _), (1, _), (2, _), (3, _), (4, _), (5, _), (6, _), (7, _)]) [1, 2, 3, 4, 5, 0, 6, 7] dX9_together_121 rfl (by decide) rfl ?_
          refine x_aload_n (q := 124) dX9_together_123 rfl rfl ?_
          refine m_get (q := 127) hM 14 fwX9_41 (by decide) dX9_together_124 rfl rfl ?_
          refine xn_sipush (q := 130) 400 dX9_together_127 rfl (by decide) ?_
          refine x_iload_n (q := 131) dX9_together_130 rfl rfl ?_
          refine xn_imul (q := 132) dX9_together_131 rfl ?_
          refine x_iload (q := 134) dX9_together_132 rfl rfl ?_
          refine xn_iadd (q := 135) dX9_together_134 rfl ?_
          refine x_iload (q := 137) dX9_together_135 rfl rfl ?_
          refine x_iload (q := 139) dX9_together_137 rfl rfl ?_
          refine xn_ldc (q := 141) 1000000000 dX9_together_139 rfl cwX9_102 ?_
          refine xn_imul (q := 142) dX9_together_141 rfl ?_
          refine x_topi (y := nI 1000000000) rfl ?_
          refine xn_isub (q := 143) dX9_together_142 rfl (by omega) ?_
          refine m_limb (q := 144) hM t dX9_together_143 rfl (by omega) (by omega) (by omega) (fun M σ143 k143 e143 f143 g143 i143 hM => ?_)
          refine xn_iinc (q := 147) (ls' := [(0, _), (1, _), (2, _), (3, _), (4, _), (5, _), (6, _), (7, _)]) [1, 2, 3, 4, 5, 6, 0, 7] 1 dX9_together_144 rfl rfl (by decide) (by decide) rfl ?_
          refine x_goto 40 dX9_together_147 (by decide) ?_
          refine x_ls (ls' := [(0, _), (1, _), (2, _), (3, _), (4, _), (5, _), (6, _)]) [0, 1, 2, 3, 4, 5, 6] rfl ?_
          have hza1 := hza0
          have hzb1 := hzb0
          have hcc : cy va.natAbs vb.natAbs (i + 1) = 1 := by omega
          have h5 := ih (i + 1) (by omega) σ143 M (hk.trans k143) (i143.trans hg) (fun j hjj => ?_) hM
          · rw [hcc] at h5; exact h5
          · by_cases e : j = i
            · subst e; rw [e143]; exact congrArg nI (by omega)
            · rw [f143 _ (by omega)]; exact hj j (by omega)
      · refine x_aload_n (q := 90) dX9_together_89 rfl rfl ?_
        refine m_get (q := 93) hM 14 fwX9_41 (by decide) dX9_together_90 rfl rfl ?_
        refine xn_sipush (q := 96) 400 dX9_together_93 rfl (by decide) ?_
        refine x_iload_n (q := 97) dX9_together_96 rfl rfl ?_
        refine xn_imul (q := 98) dX9_together_97 rfl ?_
        refine x_iload (q := 100) dX9_together_98 rfl rfl ?_
        refine xn_iadd (q := 101) dX9_together_100 rfl ?_
        refine m_iald (q := 102) hM (n := 6400) (by decide) dX9_together_101 rfl (by omega) ?_
        rw [hlb' hc86]
        refine x_goto 106 dX9_together_102 (by decide) ?_
        refine xn_iadd (q := 107) dX9_together_106 rfl ?_
        refine x_istore (q := 109) (ls' := [(0, _), (1, _), (2, _), (3, _), (4, _), (5, _), (6, _), (7, _)]) [1, 2, 3, 4, 5, 6, 7, 0] dX9_together_107 rfl (by decide) rfl ?_
        refine x_iload (q := 111) dX9_together_109 rfl rfl ?_
        refine xn_ldc (q := 113) 1000000000 dX9_together_111 rfl cwX9_102 ?_
        refine xn_icmp_lt (q := 116) 120 dX9_together_113 (by decide) rfl (by omega) (by omega) (fun hc113 => ?_) (fun hc113 => ?_)
        · refine xn_iconst (q := 121) 0 dX9_together_120 rfl (by decide) ?_
          refine x_istore (q := 123) (ls' := [(0, _), (1, _), (2, _), (3, _), (4, _), (5, _), (6, _), (7, _)]) [1, 2, 3, 4, 5, 0, 6, 7] dX9_together_121 rfl (by decide) rfl ?_
          refine x_aload_n (q := 124) dX9_together_123 rfl rfl ?_
          refine m_get (q := 127) hM 14 fwX9_41 (by decide) dX9_together_124 rfl rfl ?_
          refine xn_sipush (q := 130) 400 dX9_together_127 rfl (by decide) ?_
          refine x_iload_n (q := 131) dX9_together_130 rfl rfl ?_
          refine xn_imul (q := 132) dX9_together_131 rfl ?_
          refine x_iload (q := 134) dX9_together_132 rfl rfl ?_
          refine xn_iadd (q := 135) dX9_together_134 rfl ?_
          refine x_iload (q := 137) dX9_together_135 rfl rfl ?_
          refine x_iload (q := 139) dX9_together_137 rfl rfl ?_
          refine xn_ldc (q := 141) 1000000000 dX9_together_139 rfl cwX9_102 ?_
          refine xn_imul (q := 142) dX9_together_141 rfl ?_
          refine x_topi (y := nI 0) rfl ?_
          refine xn_isub (q := 143) dX9_together_142 rfl (by omega) ?_
          refine m_limb (q := 144) hM t dX9_together_143 rfl (by omega) (by omega) (by omega) (fun M σ143 k143 e143 f143 g143 i143 hM => ?_)
          refine xn_iinc (q := 147) (ls' := [(0, _), (1, _), (2, _), (3, _), (4, _), (5, _), (6, _), (7, _)]) [1, 2, 3, 4, 5, 6, 0, 7] 1 dX9_together_144 rfl rfl (by decide) (by decide) rfl ?_
          refine x_goto 40 dX9_together_147 (by decide) ?_
          refine x_ls (ls' := [(0, _), (1, _), (2, _), (3, _), (4, _), (5, _), (6, _)]) [0, 1, 2, 3, 4, 5, 6] rfl ?_
          have hza1 := hza0
          have hzb1 := hzb0
          have hcc : cy va.natAbs vb.natAbs (i + 1) = 0 := by omega
          have h5 := ih (i + 1) (by omega) σ143 M (hk.trans k143) (i143.trans hg) (fun j hjj => ?_) hM
          · rw [hcc] at h5; exact h5
          · by_cases e : j = i
            · subst e; rw [e143]; exact congrArg nI (by omega)
            · rw [f143 _ (by omega)]; exact hj j (by omega)
        · refine xn_iconst (q := 117) 1 dX9_together_116 rfl (by decide) ?_
          refine x_goto 121 dX9_together_117 (by decide) ?_
          refine x_istore (q := 123) (ls' := [(0, _), (1, _), (2, _), (3, _), (4, _), (5, _), (6, _), (7, _)]) [1, 2, 3, 4, 5, 0, 6, 7] dX9_together_121 rfl (by decide) rfl ?_
          refine x_aload_n (q := 124) dX9_together_123 rfl rfl ?_
          refine m_get (q := 127) hM 14 fwX9_41 (by decide) dX9_together_124 rfl rfl ?_
          refine xn_sipush (q := 130) 400 dX9_together_127 rfl (by decide) ?_
          refine x_iload_n (q := 131) dX9_together_130 rfl rfl ?_
          refine xn_imul (q := 132) dX9_together_131 rfl ?_
          refine x_iload (q := 134) dX9_together_132 rfl rfl ?_
          refine xn_iadd (q := 135) dX9_together_134 rfl ?_
          refine x_iload (q := 137) dX9_together_135 rfl rfl ?_
          refine x_iload (q := 139) dX9_together_137 rfl rfl ?_
          refine xn_ldc (q := 141) 1000000000 dX9_together_139 rfl cwX9_102 ?_
          refine xn_imul (q := 142) dX9_together_141 rfl ?_
          refine x_topi (y := nI 1000000000) rfl ?_
          refine xn_isub (q := 143) dX9_together_142 rfl (by omega) ?_
          refine m_limb (q := 144) hM t dX9_together_143 rfl (by omega) (by omega) (by omega) (fun M σ143 k143 e143 f143 g143 i143 hM => ?_)
          refine xn_iinc (q := 147) (ls' := [(0, _), (1, _), (2, _), (3, _), (4, _), (5, _), (6, _), (7, _)]) [1, 2, 3, 4, 5, 6, 0, 7] 1 dX9_together_144 rfl rfl (by decide) (by decide) rfl ?_
          refine x_goto 40 dX9_together_147 (by decide) ?_
          refine x_ls (ls' := [(0, _), (1, _), (2, _), (3, _), (4, _), (5, _), (6, _)]) [0, 1, 2, 3, 4, 5, 6] rfl ?_
          have hza1 := hza0
          have hzb1 := hzb0
          have hcc : cy va.natAbs vb.natAbs (i + 1) = 1 := by omega
          have h5 := ih (i + 1) (by omega) σ143 M (hk.trans k143) (i143.trans hg) (fun j hjj => ?_) hM
          · rw [hcc] at h5; exact h5
          · by_cases e : j = i
            · subst e; rw [e143]; exact congrArg nI (by omega)
            · rw [f143 _ (by omega)]; exact hj j (by omega)
end XR3
