section XR2
set_option maxRecDepth 100000 in
set_option maxHeartbeats 4000000 in
theorem c_put_loop (G : xG) (l : Launch) (o : Nat) (as : Nat → Nat) (M0 : xM) (N S : Nat) (d : Nat) (r : Nat) (hr : r < 16) (v : Int64) (A : Nat) (hA : A < 9223372036854775808) (σ : mS) (Q : xPost)
    (hx : ∀ i σ' M, i ≤ 3 → nl A i → keep r σ σ' → σ'.2.1 16 = σ.2.1 16 → (∀ j, j < i → σ'.2.1 14 (400 * r + j) = nI (dg A j)) → mAt o as σ' M0 M → xX G l YX9_put d Q 85 [(0, .ref o), (1, .int (nI r)), (2, .long v), (4, .long (lN 0)), (6, .int (nI i))] [] M N S) :
    ∀ (t i : Nat), i + t = 3 → (i = 0 ∨ B9 ^ (i - 1) ≤ A) → ∀ σ' M, keep r σ σ' → σ'.2.1 16 = σ.2.1 16 → (∀ j, j < i → σ'.2.1 14 (400 * r + j) = nI (dg A j)) → mAt o as σ' M0 M → xX G l YX9_put d Q 44 [(0, .ref o), (1, .int (nI r)), (2, .long v), (4, .long (lN (A / B9 ^ i))), (6, .int (nI i))] [] M N S := by
  intro t
  induction t with
  | zero =>
    intro i hi hlo σ' M hk hg hj hM
    obtain rfl : i = 3 := by omega
    have h0 : A / B9 ^ 3 = 0 := Nat.div_eq_of_lt (Nat.lt_of_lt_of_le hA (by decide))
    have hnl : nl A 3 := ⟨Nat.lt_of_lt_of_le hA (by decide), hlo⟩
    rw [h0]
    refine x_lload (q := 46) dX9_put_44 rfl rfl ?_
    refine xn_lconst (q := 47) 0 dX9_put_46 rfl (by decide) ?_
    refine xn_lcmp_le (q1 := 48) (q := 51) 85 dX9_put_47 rfl dX9_put_48 (by decide) rfl (by omega) (by omega) (fun hc47 => ?_) (fun hc47 => absurd hc47 (by omega))
    exact hx 3 σ' M (by omega) hnl hk hg hj hM
  | succ t ih =>
    intro i hi hlo σ' M hk hg hj hM
    have hle : A / B9 ^ i ≤ A := Nat.div_le_self _ _
    refine x_lload (q := 46) dX9_put_44 rfl rfl ?_
    refine xn_lconst (q := 47) 0 dX9_put_46 rfl (by decide) ?_
    refine xn_lcmp_le (q1 := 48) (q := 51) 85 dX9_put_47 rfl dX9_put_48 (by decide) rfl (by omega) (by omega) (fun hc47 => ?_) (fun hc47 => ?_)
    · have h0 : A / B9 ^ i = 0 := Nat.le_zero.mp hc47
      rw [h0]
      have hlt : A < B9 ^ i := by
        rcases Nat.lt_or_ge A (B9 ^ i) with h | h
        · exact h
        · have := Nat.div_pos h (B9_pos i); omega
      exact hx i σ' M (by omega) ⟨hlt, hlo⟩ hk hg hj hM
    · refine x_aload_n (q := 52) dX9_put_51 rfl rfl ?_
      refine m_get (q := 55) hM 14 fwX9_41 (by decide) dX9_put_52 rfl rfl ?_
      refine xn_sipush (q := 58) 400 dX9_put_55 rfl (by decide) ?_
      refine x_iload_n (q := 59) dX9_put_58 rfl rfl ?_
      refine xn_imul (q := 60) dX9_put_59 rfl ?_
      refine x_iload (q := 62) dX9_put_60 rfl rfl ?_
      refine xn_iadd (q := 63) dX9_put_62 rfl ?_
      refine x_lload (q := 65) dX9_put_63 rfl rfl ?_
      refine xn_ldc2 (q := 68) 1000000000 dX9_put_65 rfl cwX9_100 ?_
      refine xn_lrem (q := 69) dX9_put_68 rfl (by omega) (by omega) (by omega) ?_
      refine xn_l2i (q := 70) dX9_put_69 rfl ?_
      refine m_limb (q := 71) hM r dX9_put_70 rfl (by omega) (by omega) (by omega) (fun M σ70 k70 e70 f70 g70 i70 hM => ?_)
      refine x_lload (q := 73) dX9_put_71 rfl rfl ?_
      refine xn_ldc2 (q := 76) 1000000000 dX9_put_73 rfl cwX9_100 ?_
      refine xn_ldiv (q := 77) dX9_put_76 rfl (by omega) (by omega) (by omega) ?_
      refine x_lstore (q := 79) (ls' := [(0, _), (1, _), (2, _), (4, _), (6, _)]) [1, 2, 3, 0, 4] dX9_put_77 rfl (by decide) rfl ?_
      refine xn_iinc (q := 82) (ls' := [(0, _), (1, _), (2, _), (4, _), (6, _)]) [1, 2, 3, 4, 0] 1 dX9_put_79 rfl rfl (by decide) (by decide) rfl ?_
      refine x_goto 44 dX9_put_82 (by decide) ?_
      have hlo' : B9 ^ i ≤ A := by
        rcases Nat.lt_or_ge A (B9 ^ i) with h | h
        · rw [Nat.div_eq_of_lt h] at hc47; omega
        · exact h
      rw [show A / B9 ^ i / 1000000000 = A / B9 ^ (i + 1) from (div_pow_succ A i).symm]
      refine ih (i + 1) (by omega) (Or.inr hlo') σ70 M (hk.trans k70) (i70.trans hg) (fun j hjj => ?_) hM
      by_cases e : j = i
      · subst e; rw [e70]; rfl
      · rw [f70 _ (by omega)]; exact hj j (by omega)
set_option maxRecDepth 100000 in
set_option maxHeartbeats 4000000 in
theorem c_put (G : xG) (l : Launch) (o : Nat) (as : Nat → Nat) (M0 : xM) (N S : Nat) (d : Nat) (r : Nat) (hr : r < 16) (v : Int64) (z : Int) (hz : v.toInt = z) (hz2 : -9223372036854775808 < z) (σ : mS) : mC G l o as M0 N S YX9_put d [.int (nI r), .long v] σ (fun x σ' => x = none ∧ keep r σ σ' ∧ Reg σ' r z) := by
  have hzt : z < 9223372036854775808 := by rw [← hz]; exact Int64.toInt_lt v
  have hlt : v < 0 ↔ z < 0 := by rw [Int64.lt_iff_toInt_lt, hz]; rfl
  have hgt : 0 < v ↔ 0 < z := by rw [Int64.lt_iff_toInt_lt, hz]; rfl
  have hge : 0 ≤ v ↔ 0 ≤ z := by rw [Int64.le_iff_toInt_le, hz]; rfl
  have hle : v ≤ 0 ↔ z ≤ 0 := by rw [Int64.le_iff_toInt_le, hz]; rfl
  refine mC.of (ls := [(0, .ref o), (1, .int (nI r)), (2, .long v)]) (by decide) (Nat.le_of_ble_eq_true rfl) rfl fun M hM => ?_
  have fin : ∀ (σ1 : mS) (M : xM), keep r σ σ1 → σ1.2.1 16 r = sg z → mAt o as σ1 M0 M → xX G l YX9_put d (mQ o as M0 N S (fun x σ' => x = none ∧ keep r σ σ' ∧ Reg σ' r z)) 44 [(0, .ref o), (1, .int (nI r)), (2, .long v), (4, .long (lN z.natAbs)), (6, .int (nI 0))] [] M N S := by
    intro σ1 M hk1 hs1 hM
    have h0 := c_put_loop G l o as M0 N S d r hr v z.natAbs (by omega) σ1 (mQ o as M0 N S (fun x σ' => x = none ∧ keep r σ σ' ∧ Reg σ' r z)) (fun i σ' M hi hn hk hg hj hM => ?_) 3 0 (by omega) (Or.inl rfl) σ1 M keep.rfl' rfl (fun j h => absurd h (Nat.not_lt_zero j)) hM
    · rw [Nat.pow_zero, Nat.div_one] at h0
      exact h0
    · skip
      refine x_aload_n (q := 86) dX9_put_85 rfl rfl ?_
      refine m_get (q := 89) hM 15 fwX9_44 (by decide) dX9_put_86 rfl rfl ?_
      refine x_iload_n (q := 90) dX9_put_89 rfl rfl ?_
      refine x_iload (q := 92) dX9_put_90 rfl rfl ?_
      refine m_size (q := 93) hM dX9_put_92 rfl (by omega) (fun M σ92 k92 e92 f92 g92 hM => ?_)
      refine x_vret rfl dX9_put_93 (m_ret hM ⟨rfl, (hk1.trans hk).trans k92, i, by omega, hn, e92, ?_, fun j hj0 => ?_⟩)
      · rw [g92, hg, hs1]
      · rw [f92, hj j hj0]
  rcases Int.lt_trichotomy z 0 with e | e | e
  · have hv : -v = lN z.natAbs := lN_of_neg hz e hz2
    refine x_lload_n (q := 1) dX9_put_0 rfl rfl ?_
    refine x_lconst (q := 2) 0 dX9_put_1 rfl (by decide) ?_
    refine x_lcmp_ge (q1 := 3) (q := 6) 11 dX9_put_2 rfl dX9_put_3 (by decide) rfl (fun hc2 => absurd (hge.mp hc2) (by omega)) (fun hc2 => ?_)
    refine x_lload_n (q := 7) dX9_put_6 rfl rfl ?_
    refine x_lneg (q := 8) dX9_put_7 rfl ?_
    refine x_topl hv ?_
    refine x_goto 12 dX9_put_8 (by decide) ?_
    refine x_lstore (q := 14) (ls' := [(0, _), (1, _), (2, _), (4, _)]) [1, 2, 3, 0] dX9_put_12 rfl (by decide) rfl ?_
    refine x_aload_n (q := 15) dX9_put_14 rfl rfl ?_
    refine m_get (q := 18) hM 16 fwX9_47 (by decide) dX9_put_15 rfl rfl ?_
    refine x_iload_n (q := 19) dX9_put_18 rfl rfl ?_
    refine x_lload_n (q := 20) dX9_put_19 rfl rfl ?_
    refine x_lconst (q := 21) 0 dX9_put_20 rfl (by decide) ?_
    refine x_lcmp_ge (q1 := 22) (q := 25) 29 dX9_put_21 rfl dX9_put_22 (by decide) rfl (fun hc21 => absurd (hge.mp hc21) (by omega)) (fun hc21 => ?_)
    refine x_iconst (q := 26) (-1) dX9_put_25 rfl (by decide) ?_
    refine x_goto 40 dX9_put_26 (by decide) ?_
    refine m_sign (q := 41) hM dX9_put_40 rfl (by omega) (fun M σ40 k40 e40 f40 g40 hM => ?_)
    refine xn_iconst (q := 42) 0 dX9_put_41 rfl (by decide) ?_
    refine x_istore (q := 44) (ls' := [(0, _), (1, _), (2, _), (4, _), (6, _)]) [1, 2, 3, 4, 0] dX9_put_42 rfl (by decide) rfl ?_
    exact fin σ40 M k40 (by rw [e40]; exact (sg_neg e).symm) hM
  · have hv : v = lN z.natAbs := lN_of_toInt hz (by omega)
    subst e
    refine x_lload_n (q := 1) dX9_put_0 rfl rfl ?_
    refine x_lconst (q := 2) 0 dX9_put_1 rfl (by decide) ?_
    refine x_lcmp_ge (q1 := 3) (q := 6) 11 dX9_put_2 rfl dX9_put_3 (by decide) rfl (fun hc2 => ?_) (fun hc2 => absurd (hge.mpr (by omega)) hc2)
    refine x_lload_n (q := 12) dX9_put_11 rfl rfl ?_
    refine x_topl hv ?_
    refine x_lstore (q := 14) (ls' := [(0, _), (1, _), (2, _), (4, _)]) [1, 2, 3, 0] dX9_put_12 rfl (by decide) rfl ?_
    refine x_aload_n (q := 15) dX9_put_14 rfl rfl ?_
    refine m_get (q := 18) hM 16 fwX9_47 (by decide) dX9_put_15 rfl rfl ?_
    refine x_iload_n (q := 19) dX9_put_18 rfl rfl ?_
    refine x_lload_n (q := 20) dX9_put_19 rfl rfl ?_
    refine x_lconst (q := 21) 0 dX9_put_20 rfl (by decide) ?_
    refine x_lcmp_ge (q1 := 22) (q := 25) 29 dX9_put_21 rfl dX9_put_22 (by decide) rfl (fun hc21 => ?_) (fun hc21 => absurd (hge.mpr (by omega)) hc21)
    refine x_lload_n (q := 30) dX9_put_29 rfl rfl ?_
    refine x_lconst (q := 31) 0 dX9_put_30 rfl (by decide) ?_
    refine x_lcmp_le (q1 := 32) (q := 35) 39 dX9_put_31 rfl dX9_put_32 (by decide) rfl (fun hc31 => ?_) (fun hc31 => absurd (hle.mpr (by omega)) hc31)
    refine xn_iconst (q := 40) 0 dX9_put_39 rfl (by decide) ?_
    refine m_sign (q := 41) hM dX9_put_40 rfl (by omega) (fun M σ40 k40 e40 f40 g40 hM => ?_)
    refine xn_iconst (q := 42) 0 dX9_put_41 rfl (by decide) ?_
    refine x_istore (q := 44) (ls' := [(0, _), (1, _), (2, _), (4, _), (6, _)]) [1, 2, 3, 4, 0] dX9_put_42 rfl (by decide) rfl ?_
    refine fin σ40 M k40 (by rw [e40]; rfl) hM
  · have hv : v = lN z.natAbs := lN_of_toInt hz (by omega)
    refine x_lload_n (q := 1) dX9_put_0 rfl rfl ?_
    refine x_lconst (q := 2) 0 dX9_put_1 rfl (by decide) ?_
    refine x_lcmp_ge (q1 := 3) (q := 6) 11 dX9_put_2 rfl dX9_put_3 (by decide) rfl (fun hc2 => ?_) (fun hc2 => absurd (hge.mpr (by omega)) hc2)
    refine x_lload_n (q := 12) dX9_put_11 rfl rfl ?_
    refine x_topl hv ?_
    refine x_lstore (q := 14) (ls' := [(0, _), (1, _), (2, _), (4, _)]) [1, 2, 3, 0] dX9_put_12 rfl (by decide) rfl ?_
    refine x_aload_n (q := 15) dX9_put_14 rfl rfl ?_
    refine m_get (q := 18) hM 16 fwX9_47 (by decide) dX9_put_15 rfl rfl ?_
    refine x_iload_n (q := 19) dX9_put_18 rfl rfl ?_
    refine x_lload_n (q := 20) dX9_put_19 rfl rfl ?_
    refine x_lconst (q := 21) 0 dX9_put_20 rfl (by decide) ?_
    refine x_lcmp_ge (q1 := 22) (q := 25) 29 dX9_put_21 rfl dX9_put_22 (by decide) rfl (fun hc21 => ?_) (fun hc21 => absurd (hge.mpr (by omega)) hc21)
    refine x_lload_n (q := 30) dX9_put_29 rfl rfl ?_
    refine x_lconst (q := 31) 0 dX9_put_30 rfl (by decide) ?_
    refine x_lcmp_le (q1 := 32) (q := 35) 39 dX9_put_31 rfl dX9_put_32 (by decide) rfl (fun hc31 => absurd (hle.mp hc31) (by omega)) (fun hc31 => ?_)
    refine xn_iconst (q := 36) 1 dX9_put_35 rfl (by decide) ?_
    refine x_goto 40 dX9_put_36 (by decide) ?_
    refine m_sign (q := 41) hM dX9_put_40 rfl (by omega) (fun M σ40 k40 e40 f40 g40 hM => ?_)
    refine xn_iconst (q := 42) 0 dX9_put_41 rfl (by decide) ?_
    refine x_istore (q := 44) (ls' := [(0, _), (1, _), (2, _), (4, _), (6, _)]) [1, 2, 3, 4, 0] dX9_put_42 rfl (by decide) rfl ?_
    refine fin σ40 M k40 (by rw [e40, sg_pos e]; rfl) hM
end XR2
