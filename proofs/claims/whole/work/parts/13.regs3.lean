section XR3
set_option maxRecDepth 100000 in
set_option maxHeartbeats 4000000 in
theorem c_together_loop (G : xG) (l : Launch) (o : Nat) (as : Nat → Nat) (M0 : xM) (N S : Nat) (d : Nat) (a b t : Nat) (ha : a < 16) (hb : b < 16) (ht : t < 16) (hat : a ≠ t) (hbt : b ≠ t) (σ : mS) (va vb : Int) (na nb : Nat) (hna : nl va.natAbs na) (hnb : nl vb.natAbs nb) (hza : σ.2.1 15 a = nI na) (hzb : σ.2.1 15 b = nI nb) (hla : ∀ j, j < na → σ.2.1 14 (400 * a + j) = nI (dg va.natAbs j)) (hlb : ∀ j, j < nb → σ.2.1 14 (400 * b + j) = nI (dg vb.natAbs j)) (hna4 : na ≤ 400) (hnb4 : nb ≤ 400) (m : Nat) (hm : m ≤ 400) (Q : xPost)
    (hx : ∀ c σ' M, keep t σ σ' → σ'.2.1 16 = σ.2.1 16 → (∀ j, j < m → σ'.2.1 14 (400 * t + j) = nI (dg (va.natAbs + vb.natAbs) j)) → mAt o as σ' M0 M → xX G l YX9_together d Q 150 [(0, .ref o), (1, .int (nI a)), (2, .int (nI b)), (3, .int (nI t)), (4, .int (nI m)), (5, .int (nI c)), (6, .int (nI m))] [] M N S) :
    ∀ (u i : Nat), i + u = m → ∀ σ' M, keep t σ σ' → σ'.2.1 16 = σ.2.1 16 → (∀ j, j < i → σ'.2.1 14 (400 * t + j) = nI (dg (va.natAbs + vb.natAbs) j)) → mAt o as σ' M0 M → xX G l YX9_together d Q 40 [(0, .ref o), (1, .int (nI a)), (2, .int (nI b)), (3, .int (nI t)), (4, .int (nI m)), (5, .int (nI (cy va.natAbs vb.natAbs i))), (6, .int (nI i))] [] M N S := by
  intro u
  induction u with
  | zero =>
    intro i hi σ' M hk hg hj hM
    obtain rfl : i = m := by omega
    refine x_iload (q := 42) dX9_together_40 rfl rfl ?_
    refine x_iload (q := 44) dX9_together_42 rfl rfl ?_
    refine xn_icmp_ge (q := 47) 150 dX9_together_44 (by decide) rfl (by omega) (by omega) (fun hc44 => ?_) (fun hc44 => absurd hc44 (by omega))
    exact hx _ σ' M hk hg hj hM
  | succ u ih =>
    intro i hi σ' M hk hg hj hM
    have hB9 : B9 = 1000000000 := rfl
    have hza' : σ'.2.1 15 a = nI na := (hk.2.2.2.1 a hat).1.trans hza
    have hzb' : σ'.2.1 15 b = nI nb := (hk.2.2.2.1 b hbt).1.trans hzb
    have hda := dg_lt va.natAbs i
    have hdb := dg_lt vb.natAbs i
    have hcl := cy_le va.natAbs vb.natAbs i
    have hla' : i < na → σ'.2.1 14 (400 * a + i) = nI (dg va.natAbs i) := fun h => (hk.2.2.2.2 _ (by omega)).trans (hla i h)
    have hlb' : i < nb → σ'.2.1 14 (400 * b + i) = nI (dg vb.natAbs i) := fun h => (hk.2.2.2.2 _ (by omega)).trans (hlb i h)
    have hza0 : na ≤ i → dg va.natAbs i = 0 := fun h => dg_hi (Nat.lt_of_lt_of_le hna.1 (B9_mono h))
    have hzb0 : nb ≤ i → dg vb.natAbs i = 0 := fun h => dg_hi (Nat.lt_of_lt_of_le hnb.1 (B9_mono h))
    refine x_iload (q := 42) dX9_together_40 rfl rfl ?_
    refine x_iload (q := 44) dX9_together_42 rfl rfl ?_
    refine xn_icmp_ge (q := 47) 150 dX9_together_44 (by decide) rfl (by omega) (by omega) (fun hc44 => absurd hc44 (by omega)) (fun hc44 => ?_)
    refine x_iload (q := 49) dX9_together_47 rfl rfl ?_
    refine x_iload (q := 51) dX9_together_49 rfl rfl ?_
    refine x_aload_n (q := 52) dX9_together_51 rfl rfl ?_
    refine m_get (q := 55) hM 15 fwX9_44 (by decide) dX9_together_52 rfl rfl ?_
    refine x_iload_n (q := 56) dX9_together_55 rfl rfl ?_
    refine m_iald (q := 57) hM (n := 16) (by decide) dX9_together_56 rfl (by omega) ?_
    rw [hza']
    refine xn_icmp_ge (q := 60) 76 dX9_together_57 (by decide) rfl (by omega) (by omega) (fun hc57 => ?_) (fun hc57 => ?_)
    · refine xn_iconst (q := 77) 0 dX9_together_76 rfl (by decide) ?_
      refine xn_iadd (q := 78) dX9_together_77 rfl ?_
      refine x_iload (q := 80) dX9_together_78 rfl rfl ?_
      refine x_aload_n (q := 81) dX9_together_80 rfl rfl ?_
      refine m_get (q := 84) hM 15 fwX9_44 (by decide) dX9_together_81 rfl rfl ?_
      refine x_iload_n (q := 85) dX9_together_84 rfl rfl ?_
      refine m_iald (q := 86) hM (n := 16) (by decide) dX9_together_85 rfl (by omega) ?_
      rw [hzb']
      refine xn_icmp_ge (q := 89) 105 dX9_together_86 (by decide) rfl (by omega) (by omega) (fun hc86 => ?_) (fun hc86 => ?_)
      · refine xn_iconst (q := 106) 0 dX9_together_105 rfl (by decide) ?_
        refine xn_iadd (q := 107) dX9_together_106 rfl ?_
        refine x_istore (q := 109) (ls' := [(0, _), (1, _), (2, _), (3, _), (4, _), (5, _), (6, _), (7, _)]) [1, 2, 3, 4, 5, 6, 7, 0] dX9_together_107 rfl (by decide) rfl ?_
        refine x_iload (q := 111) dX9_together_109 rfl rfl ?_
        refine xn_ldc (q := 113) 1000000000 dX9_together_111 rfl cwX9_102 ?_
        refine xn_icmp_lt (q := 116) 120 dX9_together_113 (by decide) rfl (by omega) (by omega) (fun hc113 => ?_) (fun hc113 => ?_)
        · refine xn_iconst (q := 121) 0 dX9_together_120 rfl (by decide) ?_
          refine x_istore (q := 123) (ls' := [(0, _), (1, _), (2, _), (3, _), (4, _), (5, _), (6, _), (7, _)]) [1, 2, 3, 4, 5, 0, 6, 7] dX9_together_121 rfl (by decide) rfl ?_
          refine x_aload_n (q := 124) dX9_together_123 rfl rfl ?_
          refine m_get (q := 127) hM 14 fwX9_41 (by decide) dX9_together_124 rfl rfl ?_
          refine xn_sipush (q := 130) 400 dX9_together_127 rfl (by decide) ?_
          refine x_iload_n (q := 131) dX9_together_130 rfl rfl ?_
          refine xn_imul (q := 132) dX9_together_131 rfl ?_
          refine x_iload (q := 134) dX9_together_132 rfl rfl ?_
          refine xn_iadd (q := 135) dX9_together_134 rfl ?_
          refine x_iload (q := 137) dX9_together_135 rfl rfl ?_
          refine x_iload (q := 139) dX9_together_137 rfl rfl ?_
          refine xn_ldc (q := 141) 1000000000 dX9_together_139 rfl cwX9_102 ?_
          refine xn_imul (q := 142) dX9_together_141 rfl ?_
          refine x_topi (y := nI 0) rfl ?_
          refine xn_isub (q := 143) dX9_together_142 rfl (by omega) ?_
          refine m_limb (q := 144) hM t dX9_together_143 rfl (by omega) (by omega) (by omega) (fun M σ143 k143 e143 f143 g143 i143 hM => ?_)
          refine xn_iinc (q := 147) (ls' := [(0, _), (1, _), (2, _), (3, _), (4, _), (5, _), (6, _), (7, _)]) [1, 2, 3, 4, 5, 6, 0, 7] 1 dX9_together_144 rfl rfl (by decide) (by decide) rfl ?_
          refine x_goto 40 dX9_together_147 (by decide) ?_
          refine x_ls (ls' := [(0, _), (1, _), (2, _), (3, _), (4, _), (5, _), (6, _)]) [0, 1, 2, 3, 4, 5, 6] rfl ?_
          have hza1 := hza0
          have hzb1 := hzb0
          obtain ⟨hs1, hs2⟩ := cy_step va.natAbs vb.natAbs i
          have hs1 : dg (va.natAbs + vb.natAbs) i = (cy va.natAbs vb.natAbs i + dg va.natAbs i + dg vb.natAbs i) % 1000000000 := hs1
          have hs2 : cy va.natAbs vb.natAbs (i + 1) = (cy va.natAbs vb.natAbs i + dg va.natAbs i + dg vb.natAbs i) / 1000000000 := hs2
          have hcc : cy va.natAbs vb.natAbs (i + 1) = 0 := by omega
          have h5 := ih (i + 1) (by omega) σ143 M (hk.trans k143) (i143.trans hg) (fun j hjj => ?_) hM
          · rw [hcc] at h5; exact h5
          · by_cases e : j = i
            · subst e; rw [e143]; exact congrArg nI (by omega)
            · rw [f143 _ (by omega)]; exact hj j (by omega)
        · refine xn_iconst (q := 117) 1 dX9_together_116 rfl (by decide) ?_
          refine x_goto 121 dX9_together_117 (by decide) ?_
          refine x_istore (q := 123) (ls' := [(0, _), (1, _), (2, _), (3, _), (4, _), (5, _), (6, _), (7, _)]) [1, 2, 3, 4, 5, 0, 6, 7] dX9_together_121 rfl (by decide) rfl ?_
          refine x_aload_n (q := 124) dX9_together_123 rfl rfl ?_
          refine m_get (q := 127) hM 14 fwX9_41 (by decide) dX9_together_124 rfl rfl ?_
          refine xn_sipush (q := 130) 400 dX9_together_127 rfl (by decide) ?_
          refine x_iload_n (q := 131) dX9_together_130 rfl rfl ?_
          refine xn_imul (q := 132) dX9_together_131 rfl ?_
          refine x_iload (q := 134) dX9_together_132 rfl rfl ?_
          refine xn_iadd (q := 135) dX9_together_134 rfl ?_
          refine x_iload (q := 137) dX9_together_135 rfl rfl ?_
          refine x_iload (q := 139) dX9_together_137 rfl rfl ?_
          refine xn_ldc (q := 141) 1000000000 dX9_together_139 rfl cwX9_102 ?_
          refine xn_imul (q := 142) dX9_together_141 rfl ?_
          refine x_topi (y := nI 1000000000) rfl ?_
          refine xn_isub (q := 143) dX9_together_142 rfl (by omega) ?_
          refine m_limb (q := 144) hM t dX9_together_143 rfl (by omega) (by omega) (by omega) (fun M σ143 k143 e143 f143 g143 i143 hM => ?_)
          refine xn_iinc (q := 147) (ls' := [(0, _), (1, _), (2, _), (3, _), (4, _), (5, _), (6, _), (7, _)]) [1, 2, 3, 4, 5, 6, 0, 7] 1 dX9_together_144 rfl rfl (by decide) (by decide) rfl ?_
          refine x_goto 40 dX9_together_147 (by decide) ?_
          refine x_ls (ls' := [(0, _), (1, _), (2, _), (3, _), (4, _), (5, _), (6, _)]) [0, 1, 2, 3, 4, 5, 6] rfl ?_
          have hza1 := hza0
          have hzb1 := hzb0
          obtain ⟨hs1, hs2⟩ := cy_step va.natAbs vb.natAbs i
          have hs1 : dg (va.natAbs + vb.natAbs) i = (cy va.natAbs vb.natAbs i + dg va.natAbs i + dg vb.natAbs i) % 1000000000 := hs1
          have hs2 : cy va.natAbs vb.natAbs (i + 1) = (cy va.natAbs vb.natAbs i + dg va.natAbs i + dg vb.natAbs i) / 1000000000 := hs2
          have hcc : cy va.natAbs vb.natAbs (i + 1) = 1 := by omega
          have h5 := ih (i + 1) (by omega) σ143 M (hk.trans k143) (i143.trans hg) (fun j hjj => ?_) hM
          · rw [hcc] at h5; exact h5
          · by_cases e : j = i
            · subst e; rw [e143]; exact congrArg nI (by omega)
            · rw [f143 _ (by omega)]; exact hj j (by omega)
      · refine x_aload_n (q := 90) dX9_together_89 rfl rfl ?_
        refine m_get (q := 93) hM 14 fwX9_41 (by decide) dX9_together_90 rfl rfl ?_
        refine xn_sipush (q := 96) 400 dX9_together_93 rfl (by decide) ?_
        refine x_iload_n (q := 97) dX9_together_96 rfl rfl ?_
        refine xn_imul (q := 98) dX9_together_97 rfl ?_
        refine x_iload (q := 100) dX9_together_98 rfl rfl ?_
        refine xn_iadd (q := 101) dX9_together_100 rfl ?_
        refine m_iald (q := 102) hM (n := 6400) (by decide) dX9_together_101 rfl (by omega) ?_
        rw [hlb' hc86]
        refine x_goto 106 dX9_together_102 (by decide) ?_
        refine xn_iadd (q := 107) dX9_together_106 rfl ?_
        refine x_istore (q := 109) (ls' := [(0, _), (1, _), (2, _), (3, _), (4, _), (5, _), (6, _), (7, _)]) [1, 2, 3, 4, 5, 6, 7, 0] dX9_together_107 rfl (by decide) rfl ?_
        refine x_iload (q := 111) dX9_together_109 rfl rfl ?_
        refine xn_ldc (q := 113) 1000000000 dX9_together_111 rfl cwX9_102 ?_
        refine xn_icmp_lt (q := 116) 120 dX9_together_113 (by decide) rfl (by omega) (by omega) (fun hc113 => ?_) (fun hc113 => ?_)
        · refine xn_iconst (q := 121) 0 dX9_together_120 rfl (by decide) ?_
          refine x_istore (q := 123) (ls' := [(0, _), (1, _), (2, _), (3, _), (4, _), (5, _), (6, _), (7, _)]) [1, 2, 3, 4, 5, 0, 6, 7] dX9_together_121 rfl (by decide) rfl ?_
          refine x_aload_n (q := 124) dX9_together_123 rfl rfl ?_
          refine m_get (q := 127) hM 14 fwX9_41 (by decide) dX9_together_124 rfl rfl ?_
          refine xn_sipush (q := 130) 400 dX9_together_127 rfl (by decide) ?_
          refine x_iload_n (q := 131) dX9_together_130 rfl rfl ?_
          refine xn_imul (q := 132) dX9_together_131 rfl ?_
          refine x_iload (q := 134) dX9_together_132 rfl rfl ?_
          refine xn_iadd (q := 135) dX9_together_134 rfl ?_
          refine x_iload (q := 137) dX9_together_135 rfl rfl ?_
          refine x_iload (q := 139) dX9_together_137 rfl rfl ?_
          refine xn_ldc (q := 141) 1000000000 dX9_together_139 rfl cwX9_102 ?_
          refine xn_imul (q := 142) dX9_together_141 rfl ?_
          refine x_topi (y := nI 0) rfl ?_
          refine xn_isub (q := 143) dX9_together_142 rfl (by omega) ?_
          refine m_limb (q := 144) hM t dX9_together_143 rfl (by omega) (by omega) (by omega) (fun M σ143 k143 e143 f143 g143 i143 hM => ?_)
          refine xn_iinc (q := 147) (ls' := [(0, _), (1, _), (2, _), (3, _), (4, _), (5, _), (6, _), (7, _)]) [1, 2, 3, 4, 5, 6, 0, 7] 1 dX9_together_144 rfl rfl (by decide) (by decide) rfl ?_
          refine x_goto 40 dX9_together_147 (by decide) ?_
          refine x_ls (ls' := [(0, _), (1, _), (2, _), (3, _), (4, _), (5, _), (6, _)]) [0, 1, 2, 3, 4, 5, 6] rfl ?_
          have hza1 := hza0
          have hzb1 := hzb0
          obtain ⟨hs1, hs2⟩ := cy_step va.natAbs vb.natAbs i
          have hs1 : dg (va.natAbs + vb.natAbs) i = (cy va.natAbs vb.natAbs i + dg va.natAbs i + dg vb.natAbs i) % 1000000000 := hs1
          have hs2 : cy va.natAbs vb.natAbs (i + 1) = (cy va.natAbs vb.natAbs i + dg va.natAbs i + dg vb.natAbs i) / 1000000000 := hs2
          have hcc : cy va.natAbs vb.natAbs (i + 1) = 0 := by omega
          have h5 := ih (i + 1) (by omega) σ143 M (hk.trans k143) (i143.trans hg) (fun j hjj => ?_) hM
          · rw [hcc] at h5; exact h5
          · by_cases e : j = i
            · subst e; rw [e143]; exact congrArg nI (by omega)
            · rw [f143 _ (by omega)]; exact hj j (by omega)
        · refine xn_iconst (q := 117) 1 dX9_together_116 rfl (by decide) ?_
          refine x_goto 121 dX9_together_117 (by decide) ?_
          refine x_istore (q := 123) (ls' := [(0, _), (1, _), (2, _), (3, _), (4, _), (5, _), (6, _), (7, _)]) [1, 2, 3, 4, 5, 0, 6, 7] dX9_together_121 rfl (by decide) rfl ?_
          refine x_aload_n (q := 124) dX9_together_123 rfl rfl ?_
          refine m_get (q := 127) hM 14 fwX9_41 (by decide) dX9_together_124 rfl rfl ?_
          refine xn_sipush (q := 130) 400 dX9_together_127 rfl (by decide) ?_
          refine x_iload_n (q := 131) dX9_together_130 rfl rfl ?_
          refine xn_imul (q := 132) dX9_together_131 rfl ?_
          refine x_iload (q := 134) dX9_together_132 rfl rfl ?_
          refine xn_iadd (q := 135) dX9_together_134 rfl ?_
          refine x_iload (q := 137) dX9_together_135 rfl rfl ?_
          refine x_iload (q := 139) dX9_together_137 rfl rfl ?_
          refine xn_ldc (q := 141) 1000000000 dX9_together_139 rfl cwX9_102 ?_
          refine xn_imul (q := 142) dX9_together_141 rfl ?_
          refine x_topi (y := nI 1000000000) rfl ?_
          refine xn_isub (q := 143) dX9_together_142 rfl (by omega) ?_
          refine m_limb (q := 144) hM t dX9_together_143 rfl (by omega) (by omega) (by omega) (fun M σ143 k143 e143 f143 g143 i143 hM => ?_)
          refine xn_iinc (q := 147) (ls' := [(0, _), (1, _), (2, _), (3, _), (4, _), (5, _), (6, _), (7, _)]) [1, 2, 3, 4, 5, 6, 0, 7] 1 dX9_together_144 rfl rfl (by decide) (by decide) rfl ?_
          refine x_goto 40 dX9_together_147 (by decide) ?_
          refine x_ls (ls' := [(0, _), (1, _), (2, _), (3, _), (4, _), (5, _), (6, _)]) [0, 1, 2, 3, 4, 5, 6] rfl ?_
          have hza1 := hza0
          have hzb1 := hzb0
          obtain ⟨hs1, hs2⟩ := cy_step va.natAbs vb.natAbs i
          have hs1 : dg (va.natAbs + vb.natAbs) i = (cy va.natAbs vb.natAbs i + dg va.natAbs i + dg vb.natAbs i) % 1000000000 := hs1
          have hs2 : cy va.natAbs vb.natAbs (i + 1) = (cy va.natAbs vb.natAbs i + dg va.natAbs i + dg vb.natAbs i) / 1000000000 := hs2
          have hcc : cy va.natAbs vb.natAbs (i + 1) = 1 := by omega
          have h5 := ih (i + 1) (by omega) σ143 M (hk.trans k143) (i143.trans hg) (fun j hjj => ?_) hM
          · rw [hcc] at h5; exact h5
          · by_cases e : j = i
            · subst e; rw [e143]; exact congrArg nI (by omega)
            · rw [f143 _ (by omega)]; exact hj j (by omega)
    · refine x_aload_n (q := 61) dX9_together_60 rfl rfl ?_
      refine m_get (q := 64) hM 14 fwX9_41 (by decide) dX9_together_61 rfl rfl ?_
      refine xn_sipush (q := 67) 400 dX9_together_64 rfl (by decide) ?_
      refine x_iload_n (q := 68) dX9_together_67 rfl rfl ?_
      refine xn_imul (q := 69) dX9_together_68 rfl ?_
      refine x_iload (q := 71) dX9_together_69 rfl rfl ?_
      refine xn_iadd (q := 72) dX9_together_71 rfl ?_
      refine m_iald (q := 73) hM (n := 6400) (by decide) dX9_together_72 rfl (by omega) ?_
      rw [hla' hc57]
      refine x_goto 77 dX9_together_73 (by decide) ?_
      refine xn_iadd (q := 78) dX9_together_77 rfl ?_
      refine x_iload (q := 80) dX9_together_78 rfl rfl ?_
      refine x_aload_n (q := 81) dX9_together_80 rfl rfl ?_
      refine m_get (q := 84) hM 15 fwX9_44 (by decide) dX9_together_81 rfl rfl ?_
      refine x_iload_n (q := 85) dX9_together_84 rfl rfl ?_
      refine m_iald (q := 86) hM (n := 16) (by decide) dX9_together_85 rfl (by omega) ?_
      rw [hzb']
      refine xn_icmp_ge (q := 89) 105 dX9_together_86 (by decide) rfl (by omega) (by omega) (fun hc86 => ?_) (fun hc86 => ?_)
      · refine xn_iconst (q := 106) 0 dX9_together_105 rfl (by decide) ?_
        refine xn_iadd (q := 107) dX9_together_106 rfl ?_
        refine x_istore (q := 109) (ls' := [(0, _), (1, _), (2, _), (3, _), (4, _), (5, _), (6, _), (7, _)]) [1, 2, 3, 4, 5, 6, 7, 0] dX9_together_107 rfl (by decide) rfl ?_
        refine x_iload (q := 111) dX9_together_109 rfl rfl ?_
        refine xn_ldc (q := 113) 1000000000 dX9_together_111 rfl cwX9_102 ?_
        refine xn_icmp_lt (q := 116) 120 dX9_together_113 (by decide) rfl (by omega) (by omega) (fun hc113 => ?_) (fun hc113 => ?_)
        · refine xn_iconst (q := 121) 0 dX9_together_120 rfl (by decide) ?_
          refine x_istore (q := 123) (ls' := [(0, _), (1, _), (2, _), (3, _), (4, _), (5, _), (6, _), (7, _)]) [1, 2, 3, 4, 5, 0, 6, 7] dX9_together_121 rfl (by decide) rfl ?_
          refine x_aload_n (q := 124) dX9_together_123 rfl rfl ?_
          refine m_get (q := 127) hM 14 fwX9_41 (by decide) dX9_together_124 rfl rfl ?_
          refine xn_sipush (q := 130) 400 dX9_together_127 rfl (by decide) ?_
          refine x_iload_n (q := 131) dX9_together_130 rfl rfl ?_
          refine xn_imul (q := 132) dX9_together_131 rfl ?_
          refine x_iload (q := 134) dX9_together_132 rfl rfl ?_
          refine xn_iadd (q := 135) dX9_together_134 rfl ?_
          refine x_iload (q := 137) dX9_together_135 rfl rfl ?_
          refine x_iload (q := 139) dX9_together_137 rfl rfl ?_
          refine xn_ldc (q := 141) 1000000000 dX9_together_139 rfl cwX9_102 ?_
          refine xn_imul (q := 142) dX9_together_141 rfl ?_
          refine x_topi (y := nI 0) rfl ?_
          refine xn_isub (q := 143) dX9_together_142 rfl (by omega) ?_
          refine m_limb (q := 144) hM t dX9_together_143 rfl (by omega) (by omega) (by omega) (fun M σ143 k143 e143 f143 g143 i143 hM => ?_)
          refine xn_iinc (q := 147) (ls' := [(0, _), (1, _), (2, _), (3, _), (4, _), (5, _), (6, _), (7, _)]) [1, 2, 3, 4, 5, 6, 0, 7] 1 dX9_together_144 rfl rfl (by decide) (by decide) rfl ?_
          refine x_goto 40 dX9_together_147 (by decide) ?_
          refine x_ls (ls' := [(0, _), (1, _), (2, _), (3, _), (4, _), (5, _), (6, _)]) [0, 1, 2, 3, 4, 5, 6] rfl ?_
          have hza1 := hza0
          have hzb1 := hzb0
          obtain ⟨hs1, hs2⟩ := cy_step va.natAbs vb.natAbs i
          have hs1 : dg (va.natAbs + vb.natAbs) i = (cy va.natAbs vb.natAbs i + dg va.natAbs i + dg vb.natAbs i) % 1000000000 := hs1
          have hs2 : cy va.natAbs vb.natAbs (i + 1) = (cy va.natAbs vb.natAbs i + dg va.natAbs i + dg vb.natAbs i) / 1000000000 := hs2
          have hcc : cy va.natAbs vb.natAbs (i + 1) = 0 := by omega
          have h5 := ih (i + 1) (by omega) σ143 M (hk.trans k143) (i143.trans hg) (fun j hjj => ?_) hM
          · rw [hcc] at h5; exact h5
          · by_cases e : j = i
            · subst e; rw [e143]; exact congrArg nI (by omega)
            · rw [f143 _ (by omega)]; exact hj j (by omega)
        · refine xn_iconst (q := 117) 1 dX9_together_116 rfl (by decide) ?_
          refine x_goto 121 dX9_together_117 (by decide) ?_
          refine x_istore (q := 123) (ls' := [(0, _), (1, _), (2, _), (3, _), (4, _), (5, _), (6, _), (7, _)]) [1, 2, 3, 4, 5, 0, 6, 7] dX9_together_121 rfl (by decide) rfl ?_
          refine x_aload_n (q := 124) dX9_together_123 rfl rfl ?_
          refine m_get (q := 127) hM 14 fwX9_41 (by decide) dX9_together_124 rfl rfl ?_
          refine xn_sipush (q := 130) 400 dX9_together_127 rfl (by decide) ?_
          refine x_iload_n (q := 131) dX9_together_130 rfl rfl ?_
          refine xn_imul (q := 132) dX9_together_131 rfl ?_
          refine x_iload (q := 134) dX9_together_132 rfl rfl ?_
          refine xn_iadd (q := 135) dX9_together_134 rfl ?_
          refine x_iload (q := 137) dX9_together_135 rfl rfl ?_
          refine x_iload (q := 139) dX9_together_137 rfl rfl ?_
          refine xn_ldc (q := 141) 1000000000 dX9_together_139 rfl cwX9_102 ?_
          refine xn_imul (q := 142) dX9_together_141 rfl ?_
          refine x_topi (y := nI 1000000000) rfl ?_
          refine xn_isub (q := 143) dX9_together_142 rfl (by omega) ?_
          refine m_limb (q := 144) hM t dX9_together_143 rfl (by omega) (by omega) (by omega) (fun M σ143 k143 e143 f143 g143 i143 hM => ?_)
          refine xn_iinc (q := 147) (ls' := [(0, _), (1, _), (2, _), (3, _), (4, _), (5, _), (6, _), (7, _)]) [1, 2, 3, 4, 5, 6, 0, 7] 1 dX9_together_144 rfl rfl (by decide) (by decide) rfl ?_
          refine x_goto 40 dX9_together_147 (by decide) ?_
          refine x_ls (ls' := [(0, _), (1, _), (2, _), (3, _), (4, _), (5, _), (6, _)]) [0, 1, 2, 3, 4, 5, 6] rfl ?_
          have hza1 := hza0
          have hzb1 := hzb0
          obtain ⟨hs1, hs2⟩ := cy_step va.natAbs vb.natAbs i
          have hs1 : dg (va.natAbs + vb.natAbs) i = (cy va.natAbs vb.natAbs i + dg va.natAbs i + dg vb.natAbs i) % 1000000000 := hs1
          have hs2 : cy va.natAbs vb.natAbs (i + 1) = (cy va.natAbs vb.natAbs i + dg va.natAbs i + dg vb.natAbs i) / 1000000000 := hs2
          have hcc : cy va.natAbs vb.natAbs (i + 1) = 1 := by omega
          have h5 := ih (i + 1) (by omega) σ143 M (hk.trans k143) (i143.trans hg) (fun j hjj => ?_) hM
          · rw [hcc] at h5; exact h5
          · by_cases e : j = i
            · subst e; rw [e143]; exact congrArg nI (by omega)
            · rw [f143 _ (by omega)]; exact hj j (by omega)
      · refine x_aload_n (q := 90) dX9_together_89 rfl rfl ?_
        refine m_get (q := 93) hM 14 fwX9_41 (by decide) dX9_together_90 rfl rfl ?_
        refine xn_sipush (q := 96) 400 dX9_together_93 rfl (by decide) ?_
        refine x_iload_n (q := 97) dX9_together_96 rfl rfl ?_
        refine xn_imul (q := 98) dX9_together_97 rfl ?_
        refine x_iload (q := 100) dX9_together_98 rfl rfl ?_
        refine xn_iadd (q := 101) dX9_together_100 rfl ?_
        refine m_iald (q := 102) hM (n := 6400) (by decide) dX9_together_101 rfl (by omega) ?_
        rw [hlb' hc86]
        refine x_goto 106 dX9_together_102 (by decide) ?_
        refine xn_iadd (q := 107) dX9_together_106 rfl ?_
        refine x_istore (q := 109) (ls' := [(0, _), (1, _), (2, _), (3, _), (4, _), (5, _), (6, _), (7, _)]) [1, 2, 3, 4, 5, 6, 7, 0] dX9_together_107 rfl (by decide) rfl ?_
        refine x_iload (q := 111) dX9_together_109 rfl rfl ?_
        refine xn_ldc (q := 113) 1000000000 dX9_together_111 rfl cwX9_102 ?_
        refine xn_icmp_lt (q := 116) 120 dX9_together_113 (by decide) rfl (by omega) (by omega) (fun hc113 => ?_) (fun hc113 => ?_)
        · refine xn_iconst (q := 121) 0 dX9_together_120 rfl (by decide) ?_
          refine x_istore (q := 123) (ls' := [(0, _), (1, _), (2, _), (3, _), (4, _), (5, _), (6, _), (7, _)]) [1, 2, 3, 4, 5, 0, 6, 7] dX9_together_121 rfl (by decide) rfl ?_
          refine x_aload_n (q := 124) dX9_together_123 rfl rfl ?_
          refine m_get (q := 127) hM 14 fwX9_41 (by decide) dX9_together_124 rfl rfl ?_
          refine xn_sipush (q := 130) 400 dX9_together_127 rfl (by decide) ?_
          refine x_iload_n (q := 131) dX9_together_130 rfl rfl ?_
          refine xn_imul (q := 132) dX9_together_131 rfl ?_
          refine x_iload (q := 134) dX9_together_132 rfl rfl ?_
          refine xn_iadd (q := 135) dX9_together_134 rfl ?_
          refine x_iload (q := 137) dX9_together_135 rfl rfl ?_
          refine x_iload (q := 139) dX9_together_137 rfl rfl ?_
          refine xn_ldc (q := 141) 1000000000 dX9_together_139 rfl cwX9_102 ?_
          refine xn_imul (q := 142) dX9_together_141 rfl ?_
          refine x_topi (y := nI 0) rfl ?_
          refine xn_isub (q := 143) dX9_together_142 rfl (by omega) ?_
          refine m_limb (q := 144) hM t dX9_together_143 rfl (by omega) (by omega) (by omega) (fun M σ143 k143 e143 f143 g143 i143 hM => ?_)
          refine xn_iinc (q := 147) (ls' := [(0, _), (1, _), (2, _), (3, _), (4, _), (5, _), (6, _), (7, _)]) [1, 2, 3, 4, 5, 6, 0, 7] 1 dX9_together_144 rfl rfl (by decide) (by decide) rfl ?_
          refine x_goto 40 dX9_together_147 (by decide) ?_
          refine x_ls (ls' := [(0, _), (1, _), (2, _), (3, _), (4, _), (5, _), (6, _)]) [0, 1, 2, 3, 4, 5, 6] rfl ?_
          have hza1 := hza0
          have hzb1 := hzb0
          obtain ⟨hs1, hs2⟩ := cy_step va.natAbs vb.natAbs i
          have hs1 : dg (va.natAbs + vb.natAbs) i = (cy va.natAbs vb.natAbs i + dg va.natAbs i + dg vb.natAbs i) % 1000000000 := hs1
          have hs2 : cy va.natAbs vb.natAbs (i + 1) = (cy va.natAbs vb.natAbs i + dg va.natAbs i + dg vb.natAbs i) / 1000000000 := hs2
          have hcc : cy va.natAbs vb.natAbs (i + 1) = 0 := by omega
          have h5 := ih (i + 1) (by omega) σ143 M (hk.trans k143) (i143.trans hg) (fun j hjj => ?_) hM
          · rw [hcc] at h5; exact h5
          · by_cases e : j = i
            · subst e; rw [e143]; exact congrArg nI (by omega)
            · rw [f143 _ (by omega)]; exact hj j (by omega)
        · refine xn_iconst (q := 117) 1 dX9_together_116 rfl (by decide) ?_
          refine x_goto 121 dX9_together_117 (by decide) ?_
          refine x_istore (q := 123) (ls' := [(0, _), (1, _), (2, _), (3, _), (4, _), (5, _), (6, _), (7, _)]) [1, 2, 3, 4, 5, 0, 6, 7] dX9_together_121 rfl (by decide) rfl ?_
          refine x_aload_n (q := 124) dX9_together_123 rfl rfl ?_
          refine m_get (q := 127) hM 14 fwX9_41 (by decide) dX9_together_124 rfl rfl ?_
          refine xn_sipush (q := 130) 400 dX9_together_127 rfl (by decide) ?_
          refine x_iload_n (q := 131) dX9_together_130 rfl rfl ?_
          refine xn_imul (q := 132) dX9_together_131 rfl ?_
          refine x_iload (q := 134) dX9_together_132 rfl rfl ?_
          refine xn_iadd (q := 135) dX9_together_134 rfl ?_
          refine x_iload (q := 137) dX9_together_135 rfl rfl ?_
          refine x_iload (q := 139) dX9_together_137 rfl rfl ?_
          refine xn_ldc (q := 141) 1000000000 dX9_together_139 rfl cwX9_102 ?_
          refine xn_imul (q := 142) dX9_together_141 rfl ?_
          refine x_topi (y := nI 1000000000) rfl ?_
          refine xn_isub (q := 143) dX9_together_142 rfl (by omega) ?_
          refine m_limb (q := 144) hM t dX9_together_143 rfl (by omega) (by omega) (by omega) (fun M σ143 k143 e143 f143 g143 i143 hM => ?_)
          refine xn_iinc (q := 147) (ls' := [(0, _), (1, _), (2, _), (3, _), (4, _), (5, _), (6, _), (7, _)]) [1, 2, 3, 4, 5, 6, 0, 7] 1 dX9_together_144 rfl rfl (by decide) (by decide) rfl ?_
          refine x_goto 40 dX9_together_147 (by decide) ?_
          refine x_ls (ls' := [(0, _), (1, _), (2, _), (3, _), (4, _), (5, _), (6, _)]) [0, 1, 2, 3, 4, 5, 6] rfl ?_
          have hza1 := hza0
          have hzb1 := hzb0
          obtain ⟨hs1, hs2⟩ := cy_step va.natAbs vb.natAbs i
          have hs1 : dg (va.natAbs + vb.natAbs) i = (cy va.natAbs vb.natAbs i + dg va.natAbs i + dg vb.natAbs i) % 1000000000 := hs1
          have hs2 : cy va.natAbs vb.natAbs (i + 1) = (cy va.natAbs vb.natAbs i + dg va.natAbs i + dg vb.natAbs i) / 1000000000 := hs2
          have hcc : cy va.natAbs vb.natAbs (i + 1) = 1 := by omega
          have h5 := ih (i + 1) (by omega) σ143 M (hk.trans k143) (i143.trans hg) (fun j hjj => ?_) hM
          · rw [hcc] at h5; exact h5
          · by_cases e : j = i
            · subst e; rw [e143]; exact congrArg nI (by omega)
            · rw [f143 _ (by omega)]; exact hj j (by omega)
set_option maxRecDepth 100000 in
set_option maxHeartbeats 4000000 in
theorem c_together (G : xG) (l : Launch) (o : Nat) (as : Nat → Nat) (M0 : xM) (N S : Nat) (d : Nat) (a b t : Nat) (ha : a < 16) (hb : b < 16) (ht : t < 16) (hat : a ≠ t) (hbt : b ≠ t) (σ : mS) (va vb w : Int) (hva : Reg σ a va) (hvb : Reg σ b vb) (hA : va.natAbs < B9 ^ 399) (hB : vb.natAbs < B9 ^ 399) (hw : w.natAbs = va.natAbs + vb.natAbs) (hs : σ.2.1 16 t = sg w) : mC G l o as M0 N S YX9_together (d + 1) [.int (nI a), .int (nI b), .int (nI t)] σ (fun x σ' => x = none ∧ keep t σ σ' ∧ Reg σ' t w) := by
  obtain ⟨na, hna4, hna, hza, hga, hla⟩ := hva
  obtain ⟨nb, hnb4, hnb, hzb, hgb, hlb⟩ := hvb
  have hna9 := nl_of_le hna hA
  have hnb9 := nl_of_le hnb hB
  refine mC.of (ls := [(0, .ref o), (1, .int (nI a)), (2, .int (nI b)), (3, .int (nI t))]) (by decide) (Nat.le_of_ble_eq_true rfl) rfl fun M hM => ?_
  have fin : ∀ m, m ≤ 400 → va.natAbs + vb.natAbs < B9 ^ m → ∀ c σ' M, keep t σ σ' → σ'.2.1 16 = σ.2.1 16 → (∀ j, j < m → σ'.2.1 14 (400 * t + j) = nI (dg (va.natAbs + vb.natAbs) j)) → mAt o as σ' M0 M → xX G l YX9_together (d + 1) (mQ o as M0 N S (fun x σ' => x = none ∧ keep t σ σ' ∧ Reg σ' t w)) 150 [(0, .ref o), (1, .int (nI a)), (2, .int (nI b)), (3, .int (nI t)), (4, .int (nI m)), (5, .int (nI c)), (6, .int (nI m))] [] M N S := by
    intro m hm hlt c σ' M hk hg hj hM
    refine x_aload_n (q := 151) dX9_together_150 rfl rfl ?_
    refine x_iload_n (q := 152) dX9_together_151 rfl rfl ?_
    refine x_iload (q := 154) dX9_together_152 rfl rfl ?_
    refine m_call (q := 157) (As := [_, _]) hM imX9_trim ivX9_trim ilX9_trim mwX9_103 xciX9 dX9_together_154 rfl rfl rfl (by decide) ?_
    refine (c_trim G l o as M0 N S d t m ht hm σ' (dg (va.natAbs + vb.natAbs)) w (fun j _ => dg_lt _ _) hj (by rw [val_dg hlt, hw]) (fun _ => by rw [hg]; exact hs)).mono (fun x σ9 hp => ?_)
    obtain ⟨rfl, k9, r9⟩ := hp
    intro M hM
    show xX G l _ (d + 1) _ _ _ [] M N S
    exact x_vret rfl dX9_together_157 (m_ret hM ⟨rfl, hk.trans k9, r9⟩)
  refine x_aload_n (q := 1) dX9_together_0 rfl rfl ?_
  refine m_get (q := 4) hM 15 fwX9_44 (by decide) dX9_together_1 rfl rfl ?_
  refine x_iload_n (q := 5) dX9_together_4 rfl rfl ?_
  refine m_iald (q := 6) hM (n := 16) (by decide) dX9_together_5 rfl (by omega) ?_
  rw [hza]
  refine x_aload_n (q := 7) dX9_together_6 rfl rfl ?_
  refine m_get (q := 10) hM 15 fwX9_44 (by decide) dX9_together_7 rfl rfl ?_
  refine x_iload_n (q := 11) dX9_together_10 rfl rfl ?_
  refine m_iald (q := 12) hM (n := 16) (by decide) dX9_together_11 rfl (by omega) ?_
  rw [hzb]
  refine xn_icmp_le (q := 15) 24 dX9_together_12 (by decide) rfl (by omega) (by omega) (fun hc12 => ?_) (fun hc12 => ?_)
  · refine x_aload_n (q := 25) dX9_together_24 rfl rfl ?_
    refine m_get (q := 28) hM 15 fwX9_44 (by decide) dX9_together_25 rfl rfl ?_
    refine x_iload_n (q := 29) dX9_together_28 rfl rfl ?_
    refine m_iald (q := 30) hM (n := 16) (by decide) dX9_together_29 rfl (by omega) ?_
    rw [hzb]
    refine xn_iconst (q := 31) 1 dX9_together_30 rfl (by decide) ?_
    refine xn_iadd (q := 32) dX9_together_31 rfl ?_
    refine x_istore (q := 34) (ls' := [(0, _), (1, _), (2, _), (3, _), (4, _)]) [1, 2, 3, 4, 0] dX9_together_32 rfl (by decide) rfl ?_
    refine xn_iconst (q := 35) 0 dX9_together_34 rfl (by decide) ?_
    refine x_istore (q := 37) (ls' := [(0, _), (1, _), (2, _), (3, _), (4, _), (5, _)]) [1, 2, 3, 4, 5, 0] dX9_together_35 rfl (by decide) rfl ?_
    refine xn_iconst (q := 38) 0 dX9_together_37 rfl (by decide) ?_
    refine x_istore (q := 40) (ls' := [(0, _), (1, _), (2, _), (3, _), (4, _), (5, _), (6, _)]) [1, 2, 3, 4, 5, 6, 0] dX9_together_38 rfl (by decide) rfl ?_
    have hlt := nl_add hna hnb
    first | rw [Nat.max_eq_left (by omega)] at hlt | rw [Nat.max_eq_right (by omega)] at hlt
    have h5 := c_together_loop G l o as M0 N S (d + 1) a b t ha hb ht hat hbt σ va vb na nb hna hnb hza hzb hla hlb hna4 hnb4 _ (by omega) _ (fin _ (by omega) hlt) _ 0 (Nat.zero_add _) σ M keep.rfl' rfl (fun j h => absurd h (Nat.not_lt_zero j)) hM
    rw [cy_zero] at h5
    exact h5
  · refine x_aload_n (q := 16) dX9_together_15 rfl rfl ?_
    refine m_get (q := 19) hM 15 fwX9_44 (by decide) dX9_together_16 rfl rfl ?_
    refine x_iload_n (q := 20) dX9_together_19 rfl rfl ?_
    refine m_iald (q := 21) hM (n := 16) (by decide) dX9_together_20 rfl (by omega) ?_
    rw [hza]
    refine x_goto 30 dX9_together_21 (by decide) ?_
    refine xn_iconst (q := 31) 1 dX9_together_30 rfl (by decide) ?_
    refine xn_iadd (q := 32) dX9_together_31 rfl ?_
    refine x_istore (q := 34) (ls' := [(0, _), (1, _), (2, _), (3, _), (4, _)]) [1, 2, 3, 4, 0] dX9_together_32 rfl (by decide) rfl ?_
    refine xn_iconst (q := 35) 0 dX9_together_34 rfl (by decide) ?_
    refine x_istore (q := 37) (ls' := [(0, _), (1, _), (2, _), (3, _), (4, _), (5, _)]) [1, 2, 3, 4, 5, 0] dX9_together_35 rfl (by decide) rfl ?_
    refine xn_iconst (q := 38) 0 dX9_together_37 rfl (by decide) ?_
    refine x_istore (q := 40) (ls' := [(0, _), (1, _), (2, _), (3, _), (4, _), (5, _), (6, _)]) [1, 2, 3, 4, 5, 6, 0] dX9_together_38 rfl (by decide) rfl ?_
    have hlt := nl_add hna hnb
    first | rw [Nat.max_eq_left (by omega)] at hlt | rw [Nat.max_eq_right (by omega)] at hlt
    have h5 := c_together_loop G l o as M0 N S (d + 1) a b t ha hb ht hat hbt σ va vb na nb hna hnb hza hzb hla hlb hna4 hnb4 _ (by omega) _ (fin _ (by omega) hlt) _ 0 (Nat.zero_add _) σ M keep.rfl' rfl (fun j h => absurd h (Nat.not_lt_zero j)) hM
    rw [cy_zero] at h5
    exact h5
set_option maxRecDepth 100000 in
set_option maxHeartbeats 4000000 in
theorem c_apart_loop (G : xG) (l : Launch) (o : Nat) (as : Nat → Nat) (M0 : xM) (N S : Nat) (d : Nat) (a b t : Nat) (ha : a < 16) (hb : b < 16) (ht : t < 16) (hat : a ≠ t) (hbt : b ≠ t) (σ : mS) (va vb : Int) (na nb : Nat) (hna : nl va.natAbs na) (hnb : nl vb.natAbs nb) (hza : σ.2.1 15 a = nI na) (hzb : σ.2.1 15 b = nI nb) (hla : ∀ j, j < na → σ.2.1 14 (400 * a + j) = nI (dg va.natAbs j)) (hlb : ∀ j, j < nb → σ.2.1 14 (400 * b + j) = nI (dg vb.natAbs j)) (hna4 : na ≤ 400) (hnb4 : nb ≤ 400) (hle : vb.natAbs ≤ va.natAbs) (Q : xPost)
    (hx : ∀ c σ' M, keep t σ σ' → σ'.2.1 16 = σ.2.1 16 → (∀ j, j < na → σ'.2.1 14 (400 * t + j) = nI (dg (va.natAbs - vb.natAbs) j)) → mAt o as σ' M0 M → xX G l YX9_apart d Q 107 [(0, .ref o), (1, .int (nI a)), (2, .int (nI b)), (3, .int (nI t)), (4, .int (nI na)), (5, .int (nI c)), (6, .int (nI na))] [] M N S) :
    ∀ (u i : Nat), i + u = na → ∀ σ' M, keep t σ σ' → σ'.2.1 16 = σ.2.1 16 → (∀ j, j < i → σ'.2.1 14 (400 * t + j) = nI (dg (va.natAbs - vb.natAbs) j)) → mAt o as σ' M0 M → xX G l YX9_apart d Q 14 [(0, .ref o), (1, .int (nI a)), (2, .int (nI b)), (3, .int (nI t)), (4, .int (nI na)), (5, .int (nI (bw va.natAbs vb.natAbs i))), (6, .int (nI i))] [] M N S := by
  intro u
  induction u with
  | zero =>
    intro i hi σ' M hk hg hj hM
    obtain rfl : i = na := by omega
    refine x_iload (q := 16) dX9_apart_14 rfl rfl ?_
    refine x_iload (q := 18) dX9_apart_16 rfl rfl ?_
    refine xn_icmp_ge (q := 21) 107 dX9_apart_18 (by decide) rfl (by omega) (by omega) (fun hc18 => ?_) (fun hc18 => absurd hc18 (by omega))
    exact hx _ σ' M hk hg hj hM
  | succ u ih =>
    intro i hi σ' M hk hg hj hM
    have hB9 : B9 = 1000000000 := rfl
    have hza' : σ'.2.1 15 a = nI na := (hk.2.2.2.1 a hat).1.trans hza
    have hzb' : σ'.2.1 15 b = nI nb := (hk.2.2.2.1 b hbt).1.trans hzb
    have hda := dg_lt va.natAbs i
    have hdb := dg_lt vb.natAbs i
    have hcl := bw_le va.natAbs vb.natAbs i
    have hla' : σ'.2.1 14 (400 * a + i) = nI (dg va.natAbs i) := (hk.2.2.2.2 _ (by omega)).trans (hla i (by omega))
    have hlb' : i < nb → σ'.2.1 14 (400 * b + i) = nI (dg vb.natAbs i) := fun h => (hk.2.2.2.2 _ (by omega)).trans (hlb i h)
    have hzb0 : nb ≤ i → dg vb.natAbs i = 0 := fun h => dg_hi (Nat.lt_of_lt_of_le hnb.1 (B9_mono h))
    refine x_iload (q := 16) dX9_apart_14 rfl rfl ?_
    refine x_iload (q := 18) dX9_apart_16 rfl rfl ?_
    refine xn_icmp_ge (q := 21) 107 dX9_apart_18 (by decide) rfl (by omega) (by omega) (fun hc18 => absurd hc18 (by omega)) (fun hc18 => ?_)
    refine x_aload_n (q := 22) dX9_apart_21 rfl rfl ?_
    refine m_get (q := 25) hM 14 fwX9_41 (by decide) dX9_apart_22 rfl rfl ?_
    refine xn_sipush (q := 28) 400 dX9_apart_25 rfl (by decide) ?_
    refine x_iload_n (q := 29) dX9_apart_28 rfl rfl ?_
    refine xn_imul (q := 30) dX9_apart_29 rfl ?_
    refine x_iload (q := 32) dX9_apart_30 rfl rfl ?_
    refine xn_iadd (q := 33) dX9_apart_32 rfl ?_
    refine m_iald (q := 34) hM (n := 6400) (by decide) dX9_apart_33 rfl (by omega) ?_
    rw [hla']
    refine x_iload (q := 36) dX9_apart_34 rfl rfl ?_
    refine xi_isub (q := 37) dX9_apart_36 rfl (nI_i _) (nI_i _) ?_
    refine x_iload (q := 39) dX9_apart_37 rfl rfl ?_
    refine x_aload_n (q := 40) dX9_apart_39 rfl rfl ?_
    refine m_get (q := 43) hM 15 fwX9_44 (by decide) dX9_apart_40 rfl rfl ?_
    refine x_iload_n (q := 44) dX9_apart_43 rfl rfl ?_
    refine m_iald (q := 45) hM (n := 16) (by decide) dX9_apart_44 rfl (by omega) ?_
    rw [hzb']
    refine xn_icmp_ge (q := 48) 64 dX9_apart_45 (by decide) rfl (by omega) (by omega) (fun hc45 => ?_) (fun hc45 => ?_)
    · refine xn_iconst (q := 65) 0 dX9_apart_64 rfl (by decide) ?_
      refine xi_isub (q := 66) dX9_apart_65 rfl rfl (nI_i _) ?_
      refine x_istore (q := 68) (ls' := [(0, _), (1, _), (2, _), (3, _), (4, _), (5, _), (6, _), (7, _)]) [1, 2, 3, 4, 5, 6, 7, 0] dX9_apart_66 rfl (by decide) rfl ?_
      refine x_iload (q := 70) dX9_apart_68 rfl rfl ?_
      refine xi_if_ge (q := 73) 77 dX9_apart_70 (by decide) rfl rfl (by omega) (by omega) (fun hc70 => ?_) (fun hc70 => ?_)
      · refine xn_iconst (q := 78) 0 dX9_apart_77 rfl (by decide) ?_
        refine x_istore (q := 80) (ls' := [(0, _), (1, _), (2, _), (3, _), (4, _), (5, _), (6, _), (7, _)]) [1, 2, 3, 4, 5, 0, 6, 7] dX9_apart_78 rfl (by decide) rfl ?_
        refine x_aload_n (q := 81) dX9_apart_80 rfl rfl ?_
        refine m_get (q := 84) hM 14 fwX9_41 (by decide) dX9_apart_81 rfl rfl ?_
        refine xn_sipush (q := 87) 400 dX9_apart_84 rfl (by decide) ?_
        refine x_iload_n (q := 88) dX9_apart_87 rfl rfl ?_
        refine xn_imul (q := 89) dX9_apart_88 rfl ?_
        refine x_iload (q := 91) dX9_apart_89 rfl rfl ?_
        refine xn_iadd (q := 92) dX9_apart_91 rfl ?_
        refine x_iload (q := 94) dX9_apart_92 rfl rfl ?_
        refine x_iload (q := 96) dX9_apart_94 rfl rfl ?_
        refine xn_ldc (q := 98) 1000000000 dX9_apart_96 rfl cwX9_102 ?_
        refine xn_imul (q := 99) dX9_apart_98 rfl ?_
        refine x_topi (y := nI 0) rfl ?_
        refine xi_iadd (q := 100) dX9_apart_99 rfl rfl (nI_i _) ?_
        refine m_limb (q := 101) hM t dX9_apart_100 rfl (by omega) (by omega) (by omega) (fun M σ100 k100 e100 f100 g100 i100 hM => ?_)
        refine xn_iinc (q := 104) (ls' := [(0, _), (1, _), (2, _), (3, _), (4, _), (5, _), (6, _), (7, _)]) [1, 2, 3, 4, 5, 6, 0, 7] 1 dX9_apart_101 rfl rfl (by decide) (by decide) rfl ?_
        refine x_goto 14 dX9_apart_104 (by decide) ?_
        refine x_ls (ls' := [(0, _), (1, _), (2, _), (3, _), (4, _), (5, _), (6, _)]) [0, 1, 2, 3, 4, 5, 6] rfl ?_
        have hzb1 := hzb0
        obtain ⟨hs1, hs2⟩ := bw_step hle i
        have hcc : bw va.natAbs vb.natAbs (i + 1) = 0 ∧ dg (va.natAbs - vb.natAbs) i + dg vb.natAbs i + bw va.natAbs vb.natAbs i = dg va.natAbs i + 0 * 1000000000 := by
          have := hs2 (by omega)
          omega
        have h5 := ih (i + 1) (by omega) σ100 M (hk.trans k100) (i100.trans hg) (fun j hjj => ?_) hM
        · rw [hcc.1] at h5; exact h5
        · by_cases e : j = i
          · subst e; rw [e100, nI_i]; exact congrArg iI (by omega)
          · rw [f100 _ (by omega)]; exact hj j (by omega)
      · refine xn_iconst (q := 74) 1 dX9_apart_73 rfl (by decide) ?_
        refine x_goto 78 dX9_apart_74 (by decide) ?_
        refine x_istore (q := 80) (ls' := [(0, _), (1, _), (2, _), (3, _), (4, _), (5, _), (6, _), (7, _)]) [1, 2, 3, 4, 5, 0, 6, 7] dX9_apart_78 rfl (by decide) rfl ?_
        refine x_aload_n (q := 81) dX9_apart_80 rfl rfl ?_
        refine m_get (q := 84) hM 14 fwX9_41 (by decide) dX9_apart_81 rfl rfl ?_
        refine xn_sipush (q := 87) 400 dX9_apart_84 rfl (by decide) ?_
        refine x_iload_n (q := 88) dX9_apart_87 rfl rfl ?_
        refine xn_imul (q := 89) dX9_apart_88 rfl ?_
        refine x_iload (q := 91) dX9_apart_89 rfl rfl ?_
        refine xn_iadd (q := 92) dX9_apart_91 rfl ?_
        refine x_iload (q := 94) dX9_apart_92 rfl rfl ?_
        refine x_iload (q := 96) dX9_apart_94 rfl rfl ?_
        refine xn_ldc (q := 98) 1000000000 dX9_apart_96 rfl cwX9_102 ?_
        refine xn_imul (q := 99) dX9_apart_98 rfl ?_
        refine x_topi (y := nI 1000000000) rfl ?_
        refine xi_iadd (q := 100) dX9_apart_99 rfl rfl (nI_i _) ?_
        refine m_limb (q := 101) hM t dX9_apart_100 rfl (by omega) (by omega) (by omega) (fun M σ100 k100 e100 f100 g100 i100 hM => ?_)
        refine xn_iinc (q := 104) (ls' := [(0, _), (1, _), (2, _), (3, _), (4, _), (5, _), (6, _), (7, _)]) [1, 2, 3, 4, 5, 6, 0, 7] 1 dX9_apart_101 rfl rfl (by decide) (by decide) rfl ?_
        refine x_goto 14 dX9_apart_104 (by decide) ?_
        refine x_ls (ls' := [(0, _), (1, _), (2, _), (3, _), (4, _), (5, _), (6, _)]) [0, 1, 2, 3, 4, 5, 6] rfl ?_
        have hzb1 := hzb0
        obtain ⟨hs1, hs2⟩ := bw_step hle i
        have hcc : bw va.natAbs vb.natAbs (i + 1) = 1 ∧ dg (va.natAbs - vb.natAbs) i + dg vb.natAbs i + bw va.natAbs vb.natAbs i = dg va.natAbs i + 1 * 1000000000 := by
          have := hs1 (by omega)
          omega
        have h5 := ih (i + 1) (by omega) σ100 M (hk.trans k100) (i100.trans hg) (fun j hjj => ?_) hM
        · rw [hcc.1] at h5; exact h5
        · by_cases e : j = i
          · subst e; rw [e100, nI_i]; exact congrArg iI (by omega)
          · rw [f100 _ (by omega)]; exact hj j (by omega)
    · refine x_aload_n (q := 49) dX9_apart_48 rfl rfl ?_
      refine m_get (q := 52) hM 14 fwX9_41 (by decide) dX9_apart_49 rfl rfl ?_
      refine xn_sipush (q := 55) 400 dX9_apart_52 rfl (by decide) ?_
      refine x_iload_n (q := 56) dX9_apart_55 rfl rfl ?_
      refine xn_imul (q := 57) dX9_apart_56 rfl ?_
      refine x_iload (q := 59) dX9_apart_57 rfl rfl ?_
      refine xn_iadd (q := 60) dX9_apart_59 rfl ?_
      refine m_iald (q := 61) hM (n := 6400) (by decide) dX9_apart_60 rfl (by omega) ?_
      rw [hlb' hc45]
      refine x_goto 65 dX9_apart_61 (by decide) ?_
      refine xi_isub (q := 66) dX9_apart_65 rfl rfl (nI_i _) ?_
      refine x_istore (q := 68) (ls' := [(0, _), (1, _), (2, _), (3, _), (4, _), (5, _), (6, _), (7, _)]) [1, 2, 3, 4, 5, 6, 7, 0] dX9_apart_66 rfl (by decide) rfl ?_
      refine x_iload (q := 70) dX9_apart_68 rfl rfl ?_
      refine xi_if_ge (q := 73) 77 dX9_apart_70 (by decide) rfl rfl (by omega) (by omega) (fun hc70 => ?_) (fun hc70 => ?_)
      · refine xn_iconst (q := 78) 0 dX9_apart_77 rfl (by decide) ?_
        refine x_istore (q := 80) (ls' := [(0, _), (1, _), (2, _), (3, _), (4, _), (5, _), (6, _), (7, _)]) [1, 2, 3, 4, 5, 0, 6, 7] dX9_apart_78 rfl (by decide) rfl ?_
        refine x_aload_n (q := 81) dX9_apart_80 rfl rfl ?_
        refine m_get (q := 84) hM 14 fwX9_41 (by decide) dX9_apart_81 rfl rfl ?_
        refine xn_sipush (q := 87) 400 dX9_apart_84 rfl (by decide) ?_
        refine x_iload_n (q := 88) dX9_apart_87 rfl rfl ?_
        refine xn_imul (q := 89) dX9_apart_88 rfl ?_
        refine x_iload (q := 91) dX9_apart_89 rfl rfl ?_
        refine xn_iadd (q := 92) dX9_apart_91 rfl ?_
        refine x_iload (q := 94) dX9_apart_92 rfl rfl ?_
        refine x_iload (q := 96) dX9_apart_94 rfl rfl ?_
        refine xn_ldc (q := 98) 1000000000 dX9_apart_96 rfl cwX9_102 ?_
        refine xn_imul (q := 99) dX9_apart_98 rfl ?_
        refine x_topi (y := nI 0) rfl ?_
        refine xi_iadd (q := 100) dX9_apart_99 rfl rfl (nI_i _) ?_
        refine m_limb (q := 101) hM t dX9_apart_100 rfl (by omega) (by omega) (by omega) (fun M σ100 k100 e100 f100 g100 i100 hM => ?_)
        refine xn_iinc (q := 104) (ls' := [(0, _), (1, _), (2, _), (3, _), (4, _), (5, _), (6, _), (7, _)]) [1, 2, 3, 4, 5, 6, 0, 7] 1 dX9_apart_101 rfl rfl (by decide) (by decide) rfl ?_
        refine x_goto 14 dX9_apart_104 (by decide) ?_
        refine x_ls (ls' := [(0, _), (1, _), (2, _), (3, _), (4, _), (5, _), (6, _)]) [0, 1, 2, 3, 4, 5, 6] rfl ?_
        have hzb1 := hzb0
        obtain ⟨hs1, hs2⟩ := bw_step hle i
        have hcc : bw va.natAbs vb.natAbs (i + 1) = 0 ∧ dg (va.natAbs - vb.natAbs) i + dg vb.natAbs i + bw va.natAbs vb.natAbs i = dg va.natAbs i + 0 * 1000000000 := by
          have := hs2 (by omega)
          omega
        have h5 := ih (i + 1) (by omega) σ100 M (hk.trans k100) (i100.trans hg) (fun j hjj => ?_) hM
        · rw [hcc.1] at h5; exact h5
        · by_cases e : j = i
          · subst e; rw [e100, nI_i]; exact congrArg iI (by omega)
          · rw [f100 _ (by omega)]; exact hj j (by omega)
      · refine xn_iconst (q := 74) 1 dX9_apart_73 rfl (by decide) ?_
        refine x_goto 78 dX9_apart_74 (by decide) ?_
        refine x_istore (q := 80) (ls' := [(0, _), (1, _), (2, _), (3, _), (4, _), (5, _), (6, _), (7, _)]) [1, 2, 3, 4, 5, 0, 6, 7] dX9_apart_78 rfl (by decide) rfl ?_
        refine x_aload_n (q := 81) dX9_apart_80 rfl rfl ?_
        refine m_get (q := 84) hM 14 fwX9_41 (by decide) dX9_apart_81 rfl rfl ?_
        refine xn_sipush (q := 87) 400 dX9_apart_84 rfl (by decide) ?_
        refine x_iload_n (q := 88) dX9_apart_87 rfl rfl ?_
        refine xn_imul (q := 89) dX9_apart_88 rfl ?_
        refine x_iload (q := 91) dX9_apart_89 rfl rfl ?_
        refine xn_iadd (q := 92) dX9_apart_91 rfl ?_
        refine x_iload (q := 94) dX9_apart_92 rfl rfl ?_
        refine x_iload (q := 96) dX9_apart_94 rfl rfl ?_
        refine xn_ldc (q := 98) 1000000000 dX9_apart_96 rfl cwX9_102 ?_
        refine xn_imul (q := 99) dX9_apart_98 rfl ?_
        refine x_topi (y := nI 1000000000) rfl ?_
        refine xi_iadd (q := 100) dX9_apart_99 rfl rfl (nI_i _) ?_
        refine m_limb (q := 101) hM t dX9_apart_100 rfl (by omega) (by omega) (by omega) (fun M σ100 k100 e100 f100 g100 i100 hM => ?_)
        refine xn_iinc (q := 104) (ls' := [(0, _), (1, _), (2, _), (3, _), (4, _), (5, _), (6, _), (7, _)]) [1, 2, 3, 4, 5, 6, 0, 7] 1 dX9_apart_101 rfl rfl (by decide) (by decide) rfl ?_
        refine x_goto 14 dX9_apart_104 (by decide) ?_
        refine x_ls (ls' := [(0, _), (1, _), (2, _), (3, _), (4, _), (5, _), (6, _)]) [0, 1, 2, 3, 4, 5, 6] rfl ?_
        have hzb1 := hzb0
        obtain ⟨hs1, hs2⟩ := bw_step hle i
        have hcc : bw va.natAbs vb.natAbs (i + 1) = 1 ∧ dg (va.natAbs - vb.natAbs) i + dg vb.natAbs i + bw va.natAbs vb.natAbs i = dg va.natAbs i + 1 * 1000000000 := by
          have := hs1 (by omega)
          omega
        have h5 := ih (i + 1) (by omega) σ100 M (hk.trans k100) (i100.trans hg) (fun j hjj => ?_) hM
        · rw [hcc.1] at h5; exact h5
        · by_cases e : j = i
          · subst e; rw [e100, nI_i]; exact congrArg iI (by omega)
          · rw [f100 _ (by omega)]; exact hj j (by omega)
set_option maxRecDepth 100000 in
set_option maxHeartbeats 4000000 in
theorem c_apart (G : xG) (l : Launch) (o : Nat) (as : Nat → Nat) (M0 : xM) (N S : Nat) (d : Nat) (a b t : Nat) (ha : a < 16) (hb : b < 16) (ht : t < 16) (hat : a ≠ t) (hbt : b ≠ t) (σ : mS) (va vb w : Int) (hva : Reg σ a va) (hvb : Reg σ b vb) (hle : vb.natAbs ≤ va.natAbs) (hw : w.natAbs = va.natAbs - vb.natAbs) (hs : w ≠ 0 → σ.2.1 16 t = sg w) : mC G l o as M0 N S YX9_apart (d + 1) [.int (nI a), .int (nI b), .int (nI t)] σ (fun x σ' => x = none ∧ keep t σ σ' ∧ Reg σ' t w) := by
  obtain ⟨na, hna4, hna, hza, hga, hla⟩ := hva
  obtain ⟨nb, hnb4, hnb, hzb, hgb, hlb⟩ := hvb
  have hlt : va.natAbs - vb.natAbs < B9 ^ na := Nat.lt_of_le_of_lt (Nat.sub_le _ _) hna.1
  refine mC.of (ls := [(0, .ref o), (1, .int (nI a)), (2, .int (nI b)), (3, .int (nI t))]) (by decide) (Nat.le_of_ble_eq_true rfl) rfl fun M hM => ?_
  refine x_aload_n (q := 1) dX9_apart_0 rfl rfl ?_
  refine m_get (q := 4) hM 15 fwX9_44 (by decide) dX9_apart_1 rfl rfl ?_
  refine x_iload_n (q := 5) dX9_apart_4 rfl rfl ?_
  refine m_iald (q := 6) hM (n := 16) (by decide) dX9_apart_5 rfl (by omega) ?_
  rw [hza]
  refine x_istore (q := 8) (ls' := [(0, _), (1, _), (2, _), (3, _), (4, _)]) [1, 2, 3, 4, 0] dX9_apart_6 rfl (by decide) rfl ?_
  refine xn_iconst (q := 9) 0 dX9_apart_8 rfl (by decide) ?_
  refine x_istore (q := 11) (ls' := [(0, _), (1, _), (2, _), (3, _), (4, _), (5, _)]) [1, 2, 3, 4, 5, 0] dX9_apart_9 rfl (by decide) rfl ?_
  refine xn_iconst (q := 12) 0 dX9_apart_11 rfl (by decide) ?_
  refine x_istore (q := 14) (ls' := [(0, _), (1, _), (2, _), (3, _), (4, _), (5, _), (6, _)]) [1, 2, 3, 4, 5, 6, 0] dX9_apart_12 rfl (by decide) rfl ?_
  have h5 := c_apart_loop G l o as M0 N S (d + 1) a b t ha hb ht hat hbt σ va vb na nb hna hnb hza hzb hla hlb hna4 hnb4 hle (mQ o as M0 N S (fun x σ' => x = none ∧ keep t σ σ' ∧ Reg σ' t w)) (fun c σ' M hk hg hj hM => ?_) _ 0 (Nat.zero_add _) σ M keep.rfl' rfl (fun j h => absurd h (Nat.not_lt_zero j)) hM
  · rw [bw_zero] at h5
    exact h5
  · refine x_aload_n (q := 108) dX9_apart_107 rfl rfl ?_
    refine x_iload_n (q := 109) dX9_apart_108 rfl rfl ?_
    refine x_iload (q := 111) dX9_apart_109 rfl rfl ?_
    refine m_call (q := 114) (As := [_, _]) hM imX9_trim ivX9_trim ilX9_trim mwX9_103 xciX9 dX9_apart_111 rfl rfl rfl (by decide) ?_
    refine (c_trim G l o as M0 N S d t na ht hna4 σ' (dg (va.natAbs - vb.natAbs)) w (fun j _ => dg_lt _ _) hj (by rw [val_dg hlt, hw]) (fun h => by rw [hg]; exact hs h)).mono (fun x σ9 hp => ?_)
    obtain ⟨rfl, k9, r9⟩ := hp
    intro M hM
    show xX G l _ (d + 1) _ _ _ [] M N S
    exact x_vret rfl dX9_apart_114 (m_ret hM ⟨rfl, hk.trans k9, r9⟩)
end XR3
