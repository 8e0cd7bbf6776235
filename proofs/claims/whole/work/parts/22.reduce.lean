section XE
/-- a fraction in least terms: the upper part with the sign, the lower part -/
def redP (u w : Int) : Int := u.sign * w.sign * ((u.natAbs / Nat.gcd u.natAbs w.natAbs : Nat) : Int)
def redQ (u w : Int) : Int := ((w.natAbs / Nat.gcd u.natAbs w.natAbs : Nat) : Int)
theorem sg_sign (v : Int) : sg v = sg v.sign := by
  rcases Int.lt_trichotomy v 0 with e | e | e
  · rw [sg_neg e, Int.sign_eq_neg_one_of_neg e]; rfl
  · rw [e]; rfl
  · rw [sg_pos e, Int.sign_eq_one_of_pos e]; rfl
theorem redP_abs {u w : Int} (hw : w ≠ 0) : (redP u w).natAbs = u.natAbs / Nat.gcd u.natAbs w.natAbs := by
  unfold redP
  rw [Int.natAbs_mul, Int.natAbs_natCast, Int.natAbs_mul]
  by_cases hu : u = 0
  · rw [hu]; simp
  · rw [Int.natAbs_sign_of_ne_zero hu, Int.natAbs_sign_of_ne_zero hw]; omega
set_option maxRecDepth 100000 in
set_option maxHeartbeats 4000000 in
theorem c_gcd (G : xG) (l : Launch) (o : Nat) (as : Nat → Nat) (M0 : xM) (N S : Nat) (d : Nat) (s : Int32) (σ : mS) (g : Nat) (Q : xPost)
    (hx : ∀ σ' M v, keeps [11, 12, 13, 14, 15] σ σ' → Reg σ' 11 v → v.natAbs = g → mAt o as σ' M0 M → xX G l YX9_reduce (d + 3) Q 108 [(0, .ref o), (1, .int s)] [] M N S) :
    ∀ (t : Nat) (v11 v12 : Int), v12.natAbs < t → Nat.gcd v11.natAbs v12.natAbs = g → v11.natAbs < B9 ^ 397 → v12.natAbs < B9 ^ 397 → ∀ σ' M, keeps [11, 12, 13, 14, 15] σ σ' → Reg σ' 11 v11 → Reg σ' 12 v12 → mAt o as σ' M0 M → xX G l YX9_reduce (d + 3) Q 61 [(0, .ref o), (1, .int s)] [] M N S := by
  intro t
  induction t with
  | zero => intro v11 v12 h; exact absurd h (Nat.not_lt_zero _)
  | succ t ih =>
    intro v11 v12 hlt hg h11 h12 σ' M hk r11 r12 hM
    have hs12 : σ'.2.1 16 12 = sg v12 := r12.choose_spec.2.2.2.1
    refine x_aload_n (q := 62) dX9_reduce_61 rfl rfl ?_
    refine m_get (q := 65) hM 16 fwX9_47 (by decide) dX9_reduce_62 rfl rfl ?_
    refine xn_bipush (q := 67) 12 dX9_reduce_65 rfl (by decide) ?_
    refine m_iald (q := 68) hM (n := 16) (by decide) dX9_reduce_67 rfl (by omega) ?_
    rw [hs12]
    refine x_if_eq (q := 71) 108 dX9_reduce_68 (by decide) rfl (fun hc68 => ?_) (fun hc68 => ?_)
    · have e0 : v12 = 0 := sg_eq_zero.mp hc68
      rw [e0] at hg
      exact hx σ' M v11 hk r11 (by rw [← hg]; exact (Nat.gcd_zero_right _).symm) hM
    · refine x_aload_n (q := 72) dX9_reduce_71 rfl rfl ?_
      refine xn_bipush (q := 74) 11 dX9_reduce_72 rfl (by decide) ?_
      refine xn_bipush (q := 76) 12 dX9_reduce_74 rfl (by decide) ?_
      refine xn_bipush (q := 78) 13 dX9_reduce_76 rfl (by decide) ?_
      refine m_call (q := 81) (As := [_, _, _]) hM imX9_divide ivX9_divide ilX9_divide mwX9_136 xciX9 dX9_reduce_78 rfl rfl rfl (Nat.le_of_ble_eq_true rfl) ?_
      have h0 : v12 ≠ 0 := fun e => hc68 (sg_eq_zero.mpr e)
      refine (c_divide G l o as M0 N S d 11 12 13 (by decide) (by decide) (by decide) (by decide) (by decide) (by decide) σ' v11 v12 r11 r12 h0 h11).mono (fun x σ9 hp => ?_)
      obtain ⟨rfl, k9, ra9, rq9⟩ := hp
      intro M hM
      show xX G l _ (d + 3) _ _ _ [] M N S
      refine x_aload_n (q := 82) dX9_reduce_81 rfl rfl ?_
      refine xn_bipush (q := 84) 11 dX9_reduce_82 rfl (by decide) ?_
      refine xn_bipush (q := 86) 14 dX9_reduce_84 rfl (by decide) ?_
      refine m_call (q := 89) (As := [_, _]) hM imX9_copy ivX9_copy ilX9_copy mwX9_107 xciX9 dX9_reduce_86 rfl rfl rfl (Nat.le_of_ble_eq_true rfl) ?_
      refine (c_copy G l o as M0 N S (d + 2) 11 14 (by decide) (by decide) (by decide) σ9 _ ra9).mono (fun x σ19 hp => ?_)
      obtain ⟨rfl, k19, r19⟩ := hp
      intro M hM
      show xX G l _ (d + 3) _ _ _ [] M N S
      refine x_aload_n (q := 90) dX9_reduce_89 rfl rfl ?_
      refine xn_bipush (q := 92) 12 dX9_reduce_90 rfl (by decide) ?_
      refine xn_bipush (q := 94) 11 dX9_reduce_92 rfl (by decide) ?_
      refine m_call (q := 97) (As := [_, _]) hM imX9_copy ivX9_copy ilX9_copy mwX9_107 xciX9 dX9_reduce_94 rfl rfl rfl (Nat.le_of_ble_eq_true rfl) ?_
      have r12b : Reg σ19 12 v12 := k19.reg (by decide) (k9.reg (by decide) r12)
      refine (c_copy G l o as M0 N S (d + 2) 12 11 (by decide) (by decide) (by decide) σ19 _ r12b).mono (fun x σ29 hp => ?_)
      obtain ⟨rfl, k29, r29⟩ := hp
      intro M hM
      show xX G l _ (d + 3) _ _ _ [] M N S
      refine x_aload_n (q := 98) dX9_reduce_97 rfl rfl ?_
      refine xn_bipush (q := 100) 14 dX9_reduce_98 rfl (by decide) ?_
      refine xn_bipush (q := 102) 12 dX9_reduce_100 rfl (by decide) ?_
      refine m_call (q := 105) (As := [_, _]) hM imX9_copy ivX9_copy ilX9_copy mwX9_107 xciX9 dX9_reduce_102 rfl rfl rfl (Nat.le_of_ble_eq_true rfl) ?_
      refine (c_copy G l o as M0 N S (d + 2) 14 12 (by decide) (by decide) (by decide) σ29 _ (k29.reg (by decide) r19)).mono (fun x σ39 hp => ?_)
      obtain ⟨rfl, k39, r39⟩ := hp
      intro M hM
      show xX G l _ (d + 3) _ _ _ [] M N S
      refine x_goto 61 dX9_reduce_105 (by decide) ?_
      have hpos : 0 < v12.natAbs := by omega
      have hml := Nat.mod_lt v11.natAbs hpos
      refine ih v12 ((v11.natAbs % v12.natAbs : Nat) : Int) (by rw [Int.natAbs_natCast]; omega) ?_ h12 (by rw [Int.natAbs_natCast]; omega) σ39 M (hk.trans ((((k9.mono (by intro r hr; simp at hr ⊢; omega)).trans (k19.s (by simp))).trans (k29.s (by simp))).trans (k39.s (by simp)))) (k39.reg (by decide) r29) r39 hM
      rw [Int.natAbs_natCast, ← hg, Nat.gcd_comm v12.natAbs, ← Nat.gcd_rec, Nat.gcd_comm]
set_option maxRecDepth 100000 in
set_option maxHeartbeats 4000000 in
theorem c_reduce (G : xG) (l : Launch) (o : Nat) (as : Nat → Nat) (M0 : xM) (N S : Nat) (d : Nat) (σ : mS) (u w : Int) (hu : Reg σ 0 u) (hw : Reg σ 1 w) (hw0 : w ≠ 0) (hU : u.natAbs < B9 ^ 397) (hW : w.natAbs < B9 ^ 397) : mC G l o as M0 N S YX9_reduce (d + 3) [] σ (fun x σ' => x = none ∧ keeps [0, 1, 11, 12, 13, 14, 15] σ σ' ∧ Reg σ' 0 (redP u w) ∧ Reg σ' 1 (redQ u w)) := by
  have hs0 : σ.2.1 16 0 = sg u := hu.choose_spec.2.2.2.1
  have hs1 : σ.2.1 16 1 = sg w := hw.choose_spec.2.2.2.1
  refine mC.of (ls := [(0, .ref o)]) (by decide) (Nat.le_of_ble_eq_true rfl) rfl fun M hM => ?_
  have main : ∀ (σ1 : mS) (M : xM), keeps [0, 1, 11, 12, 13, 14, 15] σ σ1 → Reg σ1 0 (u * w.sign) → Reg σ1 1 (w.natAbs : Nat) → mAt o as σ1 M0 M → xX G l YX9_reduce (d + 3) (mQ o as M0 N S (fun x σ' => x = none ∧ keeps [0, 1, 11, 12, 13, 14, 15] σ σ' ∧ Reg σ' 0 (redP u w) ∧ Reg σ' 1 (redQ u w))) 29 [(0, .ref o)] [] M N S := by
    intro σ1 M hk1 r0 r1 hM
    have hs1 : σ1.2.1 16 0 = sg (u * w.sign) := r0.choose_spec.2.2.2.1
    have habs : (u * w.sign).natAbs = u.natAbs := by rw [Int.natAbs_mul, Int.natAbs_sign_of_ne_zero hw0, Nat.mul_one]
    have hwp : 0 < w.natAbs := by omega
    refine x_aload_n (q := 30) dX9_reduce_29 rfl rfl ?_
    refine m_get (q := 33) hM 16 fwX9_47 (by decide) dX9_reduce_30 rfl rfl ?_
    refine xn_iconst (q := 34) 0 dX9_reduce_33 rfl (by decide) ?_
    refine m_iald (q := 35) hM (n := 16) (by decide) dX9_reduce_34 rfl (by omega) ?_
    rw [hs1]
    refine x_istore_n (q := 36) (ls' := [(0, _), (1, _)]) [1, 0] dX9_reduce_35 rfl (by decide) rfl ?_
    refine x_iload_n (q := 37) dX9_reduce_36 rfl rfl ?_
    refine x_if_ne (q := 40) 47 dX9_reduce_37 (by decide) rfl (fun hc37 => ?_) (fun hc37 => ?_)
    · refine x_aload_n (q := 48) dX9_reduce_47 rfl rfl ?_
      refine xn_iconst (q := 49) 0 dX9_reduce_48 rfl (by decide) ?_
      refine xn_bipush (q := 51) 11 dX9_reduce_49 rfl (by decide) ?_
      refine m_call (q := 54) (As := [_, _]) hM imX9_copy ivX9_copy ilX9_copy mwX9_107 xciX9 dX9_reduce_51 rfl rfl rfl (Nat.le_of_ble_eq_true rfl) ?_
      refine (c_copy G l o as M0 N S (d + 2) 0 11 (by decide) (by decide) (by decide) σ1 _ r0).mono (fun x σ9 hp => ?_)
      obtain ⟨rfl, k9, r9⟩ := hp
      intro M hM
      show xX G l _ (d + 3) _ _ _ [] M N S
      refine x_aload_n (q := 55) dX9_reduce_54 rfl rfl ?_
      refine xn_iconst (q := 56) 1 dX9_reduce_55 rfl (by decide) ?_
      refine xn_bipush (q := 58) 12 dX9_reduce_56 rfl (by decide) ?_
      refine m_call (q := 61) (As := [_, _]) hM imX9_copy ivX9_copy ilX9_copy mwX9_107 xciX9 dX9_reduce_58 rfl rfl rfl (Nat.le_of_ble_eq_true rfl) ?_
      refine (c_copy G l o as M0 N S (d + 2) 1 12 (by decide) (by decide) (by decide) σ9 _ (k9.reg (by decide) r1)).mono (fun x σ19 hp => ?_)
      obtain ⟨rfl, k19, r19⟩ := hp
      intro M hM
      show xX G l _ (d + 3) _ _ _ [] M N S
      have hgp : 0 < Nat.gcd u.natAbs w.natAbs := Nat.gcd_pos_of_pos_right _ hwp
      have hup : 0 < u.natAbs := by
        have h1 : u * w.sign ≠ 0 := fun e => hc37 (sg_eq_zero.mpr e)
        have h2 : (u * w.sign).natAbs ≠ 0 := by omega
        omega
      refine c_gcd G l o as M0 N S d _ σ19 (Nat.gcd u.natAbs w.natAbs) _ (fun σ2 M v k2 r11 hv hM => ?_) (w.natAbs + 1) (u * w.sign) (w.natAbs : Nat) (by rw [Int.natAbs_natCast]; omega) (by rw [habs, Int.natAbs_natCast]) (by rw [habs]; exact hU) (by rw [Int.natAbs_natCast]; exact hW) σ19 M keeps.rfl' (k19.reg (by decide) r9) r19 hM
      have hv0 : v ≠ 0 := by omega
      have p0 : Reg σ2 0 (u * w.sign) := k2.reg (by decide) (k19.reg (by decide) (k9.reg (by decide) r0))
      have p1 : Reg σ2 1 (w.natAbs : Nat) := k2.reg (by decide) (k19.reg (by decide) (k9.reg (by decide) r1))
      have hK2 : keeps [0, 1, 11, 12, 13, 14, 15] σ σ2 := ((hk1.trans (k9.s (by simp))).trans (k19.s (by simp))).trans (k2.mono (by intro r hr; simp at hr ⊢; omega))
      refine xn_iconst (q := 109) 0 dX9_reduce_108 rfl (by decide) ?_
      refine x_istore_n (q := 110) (ls' := [(0, _), (1, _), (2, _)]) [1, 2, 0] dX9_reduce_109 rfl (by decide) rfl ?_
      refine x_iload_n (q := 111) dX9_reduce_110 rfl rfl ?_
      refine xn_iconst (q := 112) 2 dX9_reduce_111 rfl (by decide) ?_
      refine xn_icmp_ge (q := 115) 152 dX9_reduce_112 (by decide) rfl (by omega) (by omega) (fun hc112 => absurd hc112 (by decide)) (fun hc112 => ?_)
      refine x_aload_n (q := 116) dX9_reduce_115 rfl rfl ?_
      refine x_iload_n (q := 117) dX9_reduce_116 rfl rfl ?_
      refine xn_bipush (q := 119) 14 dX9_reduce_117 rfl (by decide) ?_
      refine m_call (q := 122) (As := [_, _]) hM imX9_copy ivX9_copy ilX9_copy mwX9_107 xciX9 dX9_reduce_119 rfl rfl rfl (Nat.le_of_ble_eq_true rfl) ?_
      refine (c_copy G l o as M0 N S (d + 2) 0 14 (by decide) (by decide) (by decide) σ2 _ p0).mono (fun x σ29 hp => ?_)
      obtain ⟨rfl, k29, r29⟩ := hp
      intro M hM
      show xX G l _ (d + 3) _ _ _ [] M N S
      refine x_aload_n (q := 123) dX9_reduce_122 rfl rfl ?_
      refine xn_bipush (q := 125) 14 dX9_reduce_123 rfl (by decide) ?_
      refine xn_bipush (q := 127) 11 dX9_reduce_125 rfl (by decide) ?_
      refine xn_bipush (q := 129) 13 dX9_reduce_127 rfl (by decide) ?_
      refine m_call (q := 132) (As := [_, _, _]) hM imX9_divide ivX9_divide ilX9_divide mwX9_136 xciX9 dX9_reduce_129 rfl rfl rfl (Nat.le_of_ble_eq_true rfl) ?_
      refine (c_divide G l o as M0 N S d 14 11 13 (by decide) (by decide) (by decide) (by decide) (by decide) (by decide) σ29 _ v r29 (k29.reg (by decide) r11) hv0 (by rw [habs]; exact hU)).mono (fun x σ39 hp => ?_)
      obtain ⟨rfl, k39, ra39, rq39⟩ := hp
      intro M hM
      show xX G l _ (d + 3) _ _ _ [] M N S
      refine x_aload_n (q := 133) dX9_reduce_132 rfl rfl ?_
      refine xn_bipush (q := 135) 13 dX9_reduce_133 rfl (by decide) ?_
      refine x_iload_n (q := 136) dX9_reduce_135 rfl rfl ?_
      refine m_call (q := 139) (As := [_, _]) hM imX9_copy ivX9_copy ilX9_copy mwX9_107 xciX9 dX9_reduce_136 rfl rfl rfl (Nat.le_of_ble_eq_true rfl) ?_
      refine (c_copy G l o as M0 N S (d + 2) 13 0 (by decide) (by decide) (by decide) σ39 _ rq39).mono (fun x σ49 hp => ?_)
      obtain ⟨rfl, k49, r49⟩ := hp
      intro M hM
      show xX G l _ (d + 3) _ _ _ [] M N S
      refine x_aload_n (q := 140) dX9_reduce_139 rfl rfl ?_
      refine m_get (q := 143) hM 16 fwX9_47 (by decide) dX9_reduce_140 rfl rfl ?_
      refine x_iload_n (q := 144) dX9_reduce_143 rfl rfl ?_
      refine xn_iconst (q := 145) 1 dX9_reduce_144 rfl (by decide) ?_
      refine m_sign (q := 146) hM dX9_reduce_145 rfl (by omega) (fun M σ145 k145 e145 f145 g145 hM => ?_)
      refine xn_iinc (q := 149) (ls' := [(0, _), (1, _), (2, _)]) [1, 2, 0] 1 dX9_reduce_146 rfl rfl (by decide) (by decide) rfl ?_
      refine x_goto 110 dX9_reduce_149 (by decide) ?_
      rw [habs, hv] at r49
      have q0 : Reg σ145 0 ((u.natAbs / Nat.gcd u.natAbs w.natAbs : Nat) : Int) := r49.resign f145 g145 (by rw [e145, sg_pos (Int.ofNat_lt.mpr (Nat.div_pos (Nat.gcd_le_left _ hup) hgp))]; rfl) rfl
      have k14 := k145
      have p1b : Reg σ145 1 (w.natAbs : Nat) := k145.reg (by decide) (k49.reg (by decide) (k39.reg (by decide) (k29.reg (by decide) p1)))
      have p11b : Reg σ145 11 v := k145.reg (by decide) (k49.reg (by decide) (k39.reg (by decide) (k29.reg (by decide) r11)))
      have hK3 : keeps [0, 1, 11, 12, 13, 14, 15] σ σ145 := (((hK2.trans (k29.s (by simp))).trans (k39.mono (by intro r hr; simp at hr ⊢; omega))).trans (k49.s (by simp))).trans (k145.s (by simp))
      generalize σ145 = σ5 at *
      refine x_iload_n (q := 111) dX9_reduce_110 rfl rfl ?_
      refine xn_iconst (q := 112) 2 dX9_reduce_111 rfl (by decide) ?_
      refine xn_icmp_ge (q := 115) 152 dX9_reduce_112 (by decide) rfl (by omega) (by omega) (fun hc112 => absurd hc112 (by decide)) (fun hc112 => ?_)
      refine x_aload_n (q := 116) dX9_reduce_115 rfl rfl ?_
      refine x_iload_n (q := 117) dX9_reduce_116 rfl rfl ?_
      refine xn_bipush (q := 119) 14 dX9_reduce_117 rfl (by decide) ?_
      refine m_call (q := 122) (As := [_, _]) hM imX9_copy ivX9_copy ilX9_copy mwX9_107 xciX9 dX9_reduce_119 rfl rfl rfl (Nat.le_of_ble_eq_true rfl) ?_
      refine (c_copy G l o as M0 N S (d + 2) 1 14 (by decide) (by decide) (by decide) σ5 _ p1b).mono (fun x σ59 hp => ?_)
      obtain ⟨rfl, k59, r59⟩ := hp
      intro M hM
      show xX G l _ (d + 3) _ _ _ [] M N S
      refine x_aload_n (q := 123) dX9_reduce_122 rfl rfl ?_
      refine xn_bipush (q := 125) 14 dX9_reduce_123 rfl (by decide) ?_
      refine xn_bipush (q := 127) 11 dX9_reduce_125 rfl (by decide) ?_
      refine xn_bipush (q := 129) 13 dX9_reduce_127 rfl (by decide) ?_
      refine m_call (q := 132) (As := [_, _, _]) hM imX9_divide ivX9_divide ilX9_divide mwX9_136 xciX9 dX9_reduce_129 rfl rfl rfl (Nat.le_of_ble_eq_true rfl) ?_
      refine (c_divide G l o as M0 N S d 14 11 13 (by decide) (by decide) (by decide) (by decide) (by decide) (by decide) σ59 _ v r59 (k59.reg (by decide) p11b) hv0 (by rw [Int.natAbs_natCast]; exact hW)).mono (fun x σ69 hp => ?_)
      obtain ⟨rfl, k69, ra69, rq69⟩ := hp
      intro M hM
      show xX G l _ (d + 3) _ _ _ [] M N S
      refine x_aload_n (q := 133) dX9_reduce_132 rfl rfl ?_
      refine xn_bipush (q := 135) 13 dX9_reduce_133 rfl (by decide) ?_
      refine x_iload_n (q := 136) dX9_reduce_135 rfl rfl ?_
      refine m_call (q := 139) (As := [_, _]) hM imX9_copy ivX9_copy ilX9_copy mwX9_107 xciX9 dX9_reduce_136 rfl rfl rfl (Nat.le_of_ble_eq_true rfl) ?_
      refine (c_copy G l o as M0 N S (d + 2) 13 1 (by decide) (by decide) (by decide) σ69 _ rq69).mono (fun x σ79 hp => ?_)
      obtain ⟨rfl, k79, r79⟩ := hp
      intro M hM
      show xX G l _ (d + 3) _ _ _ [] M N S
      refine x_aload_n (q := 140) dX9_reduce_139 rfl rfl ?_
      refine m_get (q := 143) hM 16 fwX9_47 (by decide) dX9_reduce_140 rfl rfl ?_
      refine x_iload_n (q := 144) dX9_reduce_143 rfl rfl ?_
      refine xn_iconst (q := 145) 1 dX9_reduce_144 rfl (by decide) ?_
      refine m_sign (q := 146) hM dX9_reduce_145 rfl (by omega) (fun M σ145 k145 e145 f145 g145 hM => ?_)
      refine xn_iinc (q := 149) (ls' := [(0, _), (1, _), (2, _)]) [1, 2, 0] 1 dX9_reduce_146 rfl rfl (by decide) (by decide) rfl ?_
      refine x_goto 110 dX9_reduce_149 (by decide) ?_
      rw [Int.natAbs_natCast, hv] at r79
      have q1 : Reg σ145 1 (redQ u w) := r79.resign f145 g145 (by rw [e145]; unfold redQ; rw [sg_pos (Int.ofNat_lt.mpr (Nat.div_pos (Nat.gcd_le_right _ hwp) hgp))]; rfl) rfl
      have q0 := k145.reg (by decide) (k79.reg (by decide) (k69.reg (by decide) (k59.reg (by decide) q0)))
      have hK : keeps [0, 1, 11, 12, 13, 14, 15] σ σ145 := (((hK3.trans (k59.s (by simp))).trans (k69.mono (by intro r hr; simp at hr ⊢; omega))).trans (k79.s (by simp))).trans (k145.s (by simp))
      refine x_iload_n (q := 111) dX9_reduce_110 rfl rfl ?_
      refine xn_iconst (q := 112) 2 dX9_reduce_111 rfl (by decide) ?_
      refine xn_icmp_ge (q := 115) 152 dX9_reduce_112 (by decide) rfl (by omega) (by omega) (fun hc112 => ?_) (fun hc112 => absurd hc112 (by decide))
      refine x_aload_n (q := 153) dX9_reduce_152 rfl rfl ?_
      refine m_get (q := 156) hM 16 fwX9_47 (by decide) dX9_reduce_153 rfl rfl ?_
      refine xn_iconst (q := 157) 0 dX9_reduce_156 rfl (by decide) ?_
      refine x_iload_n (q := 158) dX9_reduce_157 rfl rfl ?_
      refine m_sign (q := 159) hM dX9_reduce_158 rfl (by omega) (fun M σ158 k158 e158 f158 g158 hM => ?_)
      refine x_vret rfl dX9_reduce_159 (m_ret hM ⟨rfl, hK.trans (k158.s (by simp)), ?_, k158.reg (by decide) q1⟩)
      refine q0.resign f158 g158 ?_ (by rw [redP_abs hw0, Int.natAbs_natCast])
      rw [e158, sg_sign (u * w.sign), sg_sign (redP u w)]
      unfold redP
      rw [Int.sign_mul, Int.sign_mul, Int.sign_mul, Int.sign_sign, Int.sign_sign]
      have hq : 0 < u.natAbs / Nat.gcd u.natAbs w.natAbs := Nat.div_pos (Nat.gcd_le_left _ hup) hgp
      rw [Int.sign_eq_one_of_pos (Int.ofNat_lt.mpr hq), Int.mul_one]
    · refine x_aload_n (q := 41) dX9_reduce_40 rfl rfl ?_
      refine xn_iconst (q := 42) 1 dX9_reduce_41 rfl (by decide) ?_
      refine xn_lconst (q := 43) 1 dX9_reduce_42 rfl (by decide) ?_
      refine m_call (q := 46) (As := [_, _]) hM imX9_put ivX9_put ilX9_put mwX9_121 xciX9 dX9_reduce_43 rfl rfl rfl (Nat.le_of_ble_eq_true rfl) ?_
      refine (c_put G l o as M0 N S (d + 2) 1 (by decide) (lN 1) 1 rfl (by decide) σ1).mono (fun x σ9 hp => ?_)
      obtain ⟨rfl, k9, r9⟩ := hp
      intro M hM
      show xX G l _ (d + 3) _ _ _ [] M N S
      have e0 : u = 0 := by
        have h1 := sg_eq_zero.mp hc37
        have h2 : (u * w.sign).natAbs = 0 := by rw [h1]; rfl
        omega
      subst e0
      refine x_vret rfl dX9_reduce_46 (m_ret hM ⟨rfl, hk1.trans (k9.s (by simp)), ?_, ?_⟩)
      · have : redP 0 w = 0 * w.sign := by unfold redP; simp
        rw [this]; exact k9.reg (by decide) r0
      · have : redQ 0 w = 1 := by unfold redQ; simp [Nat.div_self hwp]
        rw [this]; exact r9
  refine x_aload_n (q := 1) dX9_reduce_0 rfl rfl ?_
  refine m_get (q := 4) hM 16 fwX9_47 (by decide) dX9_reduce_1 rfl rfl ?_
  refine xn_iconst (q := 5) 1 dX9_reduce_4 rfl (by decide) ?_
  refine m_iald (q := 6) hM (n := 16) (by decide) dX9_reduce_5 rfl (by omega) ?_
  rw [hs1]
  refine x_if_ge (q := 9) 29 dX9_reduce_6 (by decide) rfl (fun hc6 => ?_) (fun hc6 => ?_)
  · have hpos : 0 < w := by
      rcases Int.lt_trichotomy w 0 with e | e | e
      · rw [sg_neg e] at hc6; exact absurd hc6 (by decide)
      · exact absurd e hw0
      · exact e
    exact main σ M keeps.rfl' (by rw [Int.sign_eq_one_of_pos hpos, Int.mul_one]; exact hu) (by rw [Int.natAbs_of_nonneg (Int.le_of_lt hpos)]; exact hw) hM
  · refine x_aload_n (q := 10) dX9_reduce_9 rfl rfl ?_
    refine m_get (q := 13) hM 16 fwX9_47 (by decide) dX9_reduce_10 rfl rfl ?_
    refine xn_iconst (q := 14) 0 dX9_reduce_13 rfl (by decide) ?_
    refine x_aload_n (q := 15) dX9_reduce_14 rfl rfl ?_
    refine m_get (q := 18) hM 16 fwX9_47 (by decide) dX9_reduce_15 rfl rfl ?_
    refine xn_iconst (q := 19) 0 dX9_reduce_18 rfl (by decide) ?_
    refine m_iald (q := 20) hM (n := 16) (by decide) dX9_reduce_19 rfl (by omega) ?_
    rw [hs0]
    refine x_ineg (q := 21) dX9_reduce_20 rfl ?_
    refine m_sign (q := 22) hM dX9_reduce_21 rfl (by omega) (fun M σ21 k21 e21 f21 g21 hM => ?_)
    refine x_aload_n (q := 23) dX9_reduce_22 rfl rfl ?_
    refine m_get (q := 26) hM 16 fwX9_47 (by decide) dX9_reduce_23 rfl rfl ?_
    refine xn_iconst (q := 27) 1 dX9_reduce_26 rfl (by decide) ?_
    refine xn_iconst (q := 28) 1 dX9_reduce_27 rfl (by decide) ?_
    refine m_sign (q := 29) hM dX9_reduce_28 rfl (by omega) (fun M σ28 k28 e28 f28 g28 hM => ?_)
    have hneg : w < 0 := by
      rcases Int.lt_trichotomy w 0 with e | e | e
      · exact e
      · exact absurd e hw0
      · rw [sg_pos e] at hc6; exact absurd (by decide) hc6
    refine main σ28 M ((k21.s (by simp)).trans (k28.s (by simp))) (k28.reg (by decide) (hu.resign f21 g21 ?_ ?_)) ((k21.reg (by decide) hw).resign f28 g28 ?_ ?_) hM
    · rw [e21, Int.sign_eq_neg_one_of_neg hneg]
      rcases Int.lt_trichotomy u 0 with e | e | e
      · rw [sg_neg e, sg_pos (by omega)]; rfl
      · rw [e]; rfl
      · rw [sg_pos e, sg_neg (by omega)]
    · rw [Int.sign_eq_neg_one_of_neg hneg]; omega
    · rw [e28, sg_pos (by omega)]; rfl
    · rw [Int.natAbs_natCast]
/-- what a part of a fraction tells -/
def tellv (p : Int) (u w : Int) : Int64 := if p = -1 then (sg u).toInt64 else lN (dg (if p.toNat % 2 = 0 then u else w).natAbs (p.toNat / 2 * 2) + dg (if p.toNat % 2 = 0 then u else w).natAbs (p.toNat / 2 * 2 + 1) * 1000000000)
theorem tellv_n (k : Nat) (u w : Int) : tellv (k : Int) u w = lN (dg (if k % 2 = 0 then u else w).natAbs (k / 2 * 2) + dg (if k % 2 = 0 then u else w).natAbs (k / 2 * 2 + 1) * 1000000000) := by
  unfold tellv
  rw [if_neg (by omega), Int.toNat_natCast]
set_option maxRecDepth 100000 in
set_option maxHeartbeats 4000000 in
theorem c_tell (G : xG) (l : Launch) (o : Nat) (as : Nat → Nat) (M0 : xM) (N S : Nat) (d : Nat) (σ : mS) (p : Int) (hp : -1 ≤ p) (hp2 : p < 2147483648) (u w : Int) (hu : Reg σ 0 u) (hw : Reg σ 1 w) : mC G l o as M0 N S YX9_tell d [.int (iI p)] σ (fun x σ' => x = some (.long (tellv p u w)) ∧ σ' = σ) := by
  have hs0 : σ.2.1 16 0 = sg u := hu.choose_spec.2.2.2.1
  refine mC.of (ls := [(0, .ref o), (1, .int (iI p))]) (by decide) (Nat.le_of_ble_eq_true rfl) rfl fun M hM => ?_
  rcases (show p < 0 ∨ 0 ≤ p by omega) with hneg | hpos
  · obtain rfl : p = -1 := by omega
    refine x_iload_n (q := 1) dX9_tell_0 rfl rfl ?_
    refine x_iconst (q := 2) (iI (-1)) dX9_tell_1 rfl (by decide) ?_
    refine xi_icmp_ne (q := 5) 13 dX9_tell_2 (by decide) rfl rfl rfl (by omega) (by omega) (by omega) (by omega) (fun hc2 => absurd rfl hc2) (fun hc2 => ?_)
    refine x_aload_n (q := 6) dX9_tell_5 rfl rfl ?_
    refine m_get (q := 9) hM 16 fwX9_47 (by decide) dX9_tell_6 rfl rfl ?_
    refine xn_iconst (q := 10) 0 dX9_tell_9 rfl (by decide) ?_
    refine m_iald (q := 11) hM (n := 16) (by decide) dX9_tell_10 rfl (by omega) ?_
    rw [hs0]
    refine x_i2l (q := 12) dX9_tell_11 rfl ?_
    exact x_lret rfl dX9_tell_12 (m_ret hM ⟨rfl, rfl⟩)
  · obtain ⟨k, rfl⟩ : ∃ k : Nat, p = k := ⟨p.toNat, by omega⟩
    rw [← nI_i, tellv_n]
    have body : ∀ (r : Nat) (v : Int), r < 2 → k % 2 = r → Reg σ r v → xX G l YX9_tell d (mQ o as M0 N S (fun x σ' => x = some (.long (lN (dg v.natAbs (k / 2 * 2) + dg v.natAbs (k / 2 * 2 + 1) * 1000000000))) ∧ σ' = σ)) 23 [(0, .ref o), (1, .int (nI k)), (2, .int (nI r)), (3, .int (nI (k / 2 * 2)))] [] M N S := by
      intro r v hr hkr hv
      obtain ⟨m, h1, h2, h3, h4, h5⟩ := hv
      have hq31 : k / 2 * 2 + 1 < 2147483648 := by omega
      generalize k / 2 * 2 = q at *
      have d1 : dg v.natAbs q < 1000000000 := dg_lt _ _
      have d2 : dg v.natAbs (q + 1) < 1000000000 := dg_lt _ _
      have hl1 : q < m → σ.2.1 14 (400 * r + q) = nI (dg v.natAbs q) := fun h => h5 q h
      have hl2 : q + 1 < m → σ.2.1 14 (400 * r + q + 1) = nI (dg v.natAbs (q + 1)) := fun h => h5 (q + 1) h
      have z1 : m ≤ q → dg v.natAbs q = 0 := fun h => dg_hi (Nat.lt_of_lt_of_le h2.1 (B9_mono h))
      have z2 : m ≤ q + 1 → dg v.natAbs (q + 1) = 0 := fun h => dg_hi (Nat.lt_of_lt_of_le h2.1 (B9_mono h))
      refine x_iload_n (q := 24) dX9_tell_23 rfl rfl ?_
      refine x_aload_n (q := 25) dX9_tell_24 rfl rfl ?_
      refine m_get (q := 28) hM 15 fwX9_44 (by decide) dX9_tell_25 rfl rfl ?_
      refine x_iload_n (q := 29) dX9_tell_28 rfl rfl ?_
      refine m_iald (q := 30) hM (n := 16) (by decide) dX9_tell_29 rfl (by omega) ?_
      rw [h3]
      refine xn_icmp_ge (q := 33) 49 dX9_tell_30 (by decide) rfl (by omega) (by omega) (fun hc30 => ?_) (fun hc30 => ?_)
      · refine xn_lconst (q := 50) 0 dX9_tell_49 rfl (by decide) ?_
        refine x_lstore (q := 52) (ls' := [(0, _), (1, _), (2, _), (3, _), (4, _)]) [1, 2, 3, 4, 0] dX9_tell_50 rfl (by decide) rfl ?_
        refine x_lload (q := 54) dX9_tell_52 rfl rfl ?_
        refine x_iload_n (q := 55) dX9_tell_54 rfl rfl ?_
        refine xn_iconst (q := 56) 1 dX9_tell_55 rfl (by decide) ?_
        refine xn_iadd (q := 57) dX9_tell_56 rfl ?_
        refine x_aload_n (q := 58) dX9_tell_57 rfl rfl ?_
        refine m_get (q := 61) hM 15 fwX9_44 (by decide) dX9_tell_58 rfl rfl ?_
        refine x_iload_n (q := 62) dX9_tell_61 rfl rfl ?_
        refine m_iald (q := 63) hM (n := 16) (by decide) dX9_tell_62 rfl (by omega) ?_
        rw [h3]
        refine xn_icmp_ge (q := 66) 88 dX9_tell_63 (by decide) rfl (by omega) (by omega) (fun hc63 => ?_) (fun hc63 => ?_)
        · refine xn_lconst (q := 89) 0 dX9_tell_88 rfl (by decide) ?_
          refine xn_ladd (q := 90) dX9_tell_89 rfl ?_
          refine x_topl (y := lN 0) rfl ?_
          have y1 := z1
          have y2 := z2
          exact x_lret rfl dX9_tell_90 (m_ret hM ⟨by refine congrArg (fun t => some (Value.long (lN t))) ?_; omega, rfl⟩)
        · refine x_aload_n (q := 67) dX9_tell_66 rfl rfl ?_
          refine m_get (q := 70) hM 14 fwX9_41 (by decide) dX9_tell_67 rfl rfl ?_
          refine xn_sipush (q := 73) 400 dX9_tell_70 rfl (by decide) ?_
          refine x_iload_n (q := 74) dX9_tell_73 rfl rfl ?_
          refine xn_imul (q := 75) dX9_tell_74 rfl ?_
          refine x_iload_n (q := 76) dX9_tell_75 rfl rfl ?_
          refine xn_iadd (q := 77) dX9_tell_76 rfl ?_
          refine xn_iconst (q := 78) 1 dX9_tell_77 rfl (by decide) ?_
          refine xn_iadd (q := 79) dX9_tell_78 rfl ?_
          refine m_iald (q := 80) hM (n := 6400) (by decide) dX9_tell_79 rfl (by omega) ?_
          rw [hl2 hc63]
          refine xn_i2l (q := 81) dX9_tell_80 rfl (by omega) ?_
          refine xn_ldc2 (q := 84) 1000000000 dX9_tell_81 rfl cwX9_100 ?_
          refine xn_lmul (q := 85) dX9_tell_84 rfl ?_
          refine x_goto 89 dX9_tell_85 (by decide) ?_
          refine xn_ladd (q := 90) dX9_tell_89 rfl ?_
          have y1 := z1
          have y2 := z2
          exact x_lret rfl dX9_tell_90 (m_ret hM ⟨by refine congrArg (fun t => some (Value.long (lN t))) ?_; omega, rfl⟩)
      · refine x_aload_n (q := 34) dX9_tell_33 rfl rfl ?_
        refine m_get (q := 37) hM 14 fwX9_41 (by decide) dX9_tell_34 rfl rfl ?_
        refine xn_sipush (q := 40) 400 dX9_tell_37 rfl (by decide) ?_
        refine x_iload_n (q := 41) dX9_tell_40 rfl rfl ?_
        refine xn_imul (q := 42) dX9_tell_41 rfl ?_
        refine x_iload_n (q := 43) dX9_tell_42 rfl rfl ?_
        refine xn_iadd (q := 44) dX9_tell_43 rfl ?_
        refine m_iald (q := 45) hM (n := 6400) (by decide) dX9_tell_44 rfl (by omega) ?_
        rw [hl1 hc30]
        refine xn_i2l (q := 46) dX9_tell_45 rfl (by omega) ?_
        refine x_goto 50 dX9_tell_46 (by decide) ?_
        refine x_lstore (q := 52) (ls' := [(0, _), (1, _), (2, _), (3, _), (4, _)]) [1, 2, 3, 4, 0] dX9_tell_50 rfl (by decide) rfl ?_
        refine x_lload (q := 54) dX9_tell_52 rfl rfl ?_
        refine x_iload_n (q := 55) dX9_tell_54 rfl rfl ?_
        refine xn_iconst (q := 56) 1 dX9_tell_55 rfl (by decide) ?_
        refine xn_iadd (q := 57) dX9_tell_56 rfl ?_
        refine x_aload_n (q := 58) dX9_tell_57 rfl rfl ?_
        refine m_get (q := 61) hM 15 fwX9_44 (by decide) dX9_tell_58 rfl rfl ?_
        refine x_iload_n (q := 62) dX9_tell_61 rfl rfl ?_
        refine m_iald (q := 63) hM (n := 16) (by decide) dX9_tell_62 rfl (by omega) ?_
        rw [h3]
        refine xn_icmp_ge (q := 66) 88 dX9_tell_63 (by decide) rfl (by omega) (by omega) (fun hc63 => ?_) (fun hc63 => ?_)
        · refine xn_lconst (q := 89) 0 dX9_tell_88 rfl (by decide) ?_
          refine xn_ladd (q := 90) dX9_tell_89 rfl ?_
          have y1 := z1
          have y2 := z2
          exact x_lret rfl dX9_tell_90 (m_ret hM ⟨by refine congrArg (fun t => some (Value.long (lN t))) ?_; omega, rfl⟩)
        · refine x_aload_n (q := 67) dX9_tell_66 rfl rfl ?_
          refine m_get (q := 70) hM 14 fwX9_41 (by decide) dX9_tell_67 rfl rfl ?_
          refine xn_sipush (q := 73) 400 dX9_tell_70 rfl (by decide) ?_
          refine x_iload_n (q := 74) dX9_tell_73 rfl rfl ?_
          refine xn_imul (q := 75) dX9_tell_74 rfl ?_
          refine x_iload_n (q := 76) dX9_tell_75 rfl rfl ?_
          refine xn_iadd (q := 77) dX9_tell_76 rfl ?_
          refine xn_iconst (q := 78) 1 dX9_tell_77 rfl (by decide) ?_
          refine xn_iadd (q := 79) dX9_tell_78 rfl ?_
          refine m_iald (q := 80) hM (n := 6400) (by decide) dX9_tell_79 rfl (by omega) ?_
          rw [hl2 hc63]
          refine xn_i2l (q := 81) dX9_tell_80 rfl (by omega) ?_
          refine xn_ldc2 (q := 84) 1000000000 dX9_tell_81 rfl cwX9_100 ?_
          refine xn_lmul (q := 85) dX9_tell_84 rfl ?_
          refine x_goto 89 dX9_tell_85 (by decide) ?_
          refine xn_ladd (q := 90) dX9_tell_89 rfl ?_
          have y1 := z1
          have y2 := z2
          exact x_lret rfl dX9_tell_90 (m_ret hM ⟨by refine congrArg (fun t => some (Value.long (lN t))) ?_; omega, rfl⟩)
    refine x_iload_n (q := 1) dX9_tell_0 rfl rfl ?_
    refine x_iconst (q := 2) (iI (-1)) dX9_tell_1 rfl (by decide) ?_
    refine xi_icmp_ne (q := 5) 13 dX9_tell_2 (by decide) rfl (nI_i _) rfl (by omega) (by omega) (by omega) (by omega) (fun hc2 => ?_) (fun hc2 => absurd hc2 (by omega))
    refine x_iload_n (q := 14) dX9_tell_13 rfl rfl ?_
    refine xn_iconst (q := 15) 2 dX9_tell_14 rfl (by decide) ?_
    refine xn_irem (q := 16) dX9_tell_15 rfl (by omega) (by decide) (by decide) ?_
    refine x_istore_n (q := 17) (ls' := [(0, _), (1, _), (2, _)]) [1, 2, 0] dX9_tell_16 rfl (by decide) rfl ?_
    refine x_iload_n (q := 18) dX9_tell_17 rfl rfl ?_
    refine xn_iconst (q := 19) 2 dX9_tell_18 rfl (by decide) ?_
    refine xn_idiv (q := 20) dX9_tell_19 rfl (by omega) (by decide) (by decide) ?_
    refine xn_iconst (q := 21) 2 dX9_tell_20 rfl (by decide) ?_
    refine xn_imul (q := 22) dX9_tell_21 rfl ?_
    refine x_istore_n (q := 23) (ls' := [(0, _), (1, _), (2, _), (3, _)]) [1, 2, 3, 0] dX9_tell_22 rfl (by decide) rfl ?_
    by_cases e : k % 2 = 0
    · rw [if_pos e, e]; exact body 0 u (by decide) e hu
    · rw [if_neg e, show k % 2 = 1 by omega]; exact body 1 w (by decide) (by omega) hw
end XE
