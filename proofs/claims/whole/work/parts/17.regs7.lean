section XR7
theorem sg_div {v : Int} {b : Nat} (hv0 : 0 ≤ v) (h : ((v.natAbs / b : Nat) : Int) ≠ 0) : sg v = sg ((v.natAbs / b : Nat) : Int) := by
  have hv1 : v.natAbs / b ≠ 0 := fun e => h (by rw [e]; rfl)
  have hv2 : v.natAbs ≠ 0 := fun e => hv1 (by rw [e, Nat.zero_div])
  rw [sg_pos (by omega), sg_pos (Int.ofNat_lt.mpr (Nat.pos_of_ne_zero hv1))]
theorem ds_step {A b k : Nat} (hb : 0 < b) : let R := A / B9 ^ (k + 1) % b; dg (A / b) k = (R * B9 + dg A k) / b ∧ A / B9 ^ k % b = (R * B9 + dg A k) % b := by
  intro R
  have h1 := div_dg A k
  have h2 : A / b / B9 ^ k = A / B9 ^ k / b := by rw [Nat.div_div_eq_div_mul, Nat.div_div_eq_div_mul, Nat.mul_comm]
  have hX := Nat.div_add_mod (A / B9 ^ (k + 1)) b
  have hR : R < b := Nat.mod_lt _ hb
  have hd := dg_lt A k
  have e : A / B9 ^ k = (R * B9 + dg A k) + (A / B9 ^ (k + 1) / b * B9) * b := by
    rw [h1]
    show _ = (A / B9 ^ (k + 1) % b * B9 + dg A k) + _
    generalize A / B9 ^ (k + 1) / b = y at *
    generalize A / B9 ^ (k + 1) % b = r at *
    rw [← hX, Nat.add_mul, Nat.mul_comm b y, Nat.mul_right_comm]
    omega
  have hlt : (R * B9 + dg A k) / b < B9 := by
    refine Nat.div_lt_of_lt_mul ?_
    have : (R + 1) * B9 ≤ b * B9 := Nat.mul_le_mul_right _ hR
    rw [Nat.add_mul] at this
    omega
  constructor
  · show A / b / B9 ^ k % B9 = (R * B9 + dg A k) / b
    rw [h2, e, Nat.add_mul_div_right _ _ hb, Nat.add_mul_mod_self_right, Nat.mod_eq_of_lt hlt]
  · rw [e, Nat.add_mul_mod_self_right]
set_option maxRecDepth 100000 in
set_option maxHeartbeats 4000000 in
theorem c_ds_loop (G : xG) (l : Launch) (o : Nat) (as : Nat → Nat) (M0 : xM) (N S : Nat) (d : Nat) (r : Nat) (hr : r < 16) (A b na : Nat) (hb0 : 0 < b) (hb : b ≤ 1000000000) (hn4 : na ≤ 400) (σ : mS) (Q : xPost)
    (hx : ∀ σ' M, keep r σ σ' → σ'.2.1 16 = σ.2.1 16 → σ'.2.1 15 = σ.2.1 15 → (∀ p, p < na → σ'.2.1 14 (400 * r + p) = nI (dg (A / b) p)) → mAt o as σ' M0 M → xX G l YX9_divideSmall d Q 71 [(0, .ref o), (1, .int (nI r)), (2, .long (lN b)), (4, .long (lN (A % b))), (6, .int (-1))] [] M N S) :
    ∀ (i : Nat), i ≤ na → ∀ σ' M, keep r σ σ' → σ'.2.1 16 = σ.2.1 16 → σ'.2.1 15 = σ.2.1 15 → (∀ p, i ≤ p → p < na → σ'.2.1 14 (400 * r + p) = nI (dg (A / b) p)) → (∀ p, p < i → σ'.2.1 14 (400 * r + p) = nI (dg A p)) → mAt o as σ' M0 M → xX G l YX9_divideSmall d Q 13 [(0, .ref o), (1, .int (nI r)), (2, .long (lN b)), (4, .long (lN (A / B9 ^ i % b))), (6, .int (nI i + (-1)))] [] M N S := by
  intro i
  induction i with
  | zero =>
    intro hi σ' M hk hg hz h1 h2 hM
    rw [Nat.pow_zero, Nat.div_one, show nI 0 + (-1) = -1 from rfl]
    refine x_iload (q := 15) dX9_divideSmall_13 rfl rfl ?_
    refine x_if_lt (q := 18) 71 dX9_divideSmall_15 (by decide) rfl (fun hc15 => ?_) (fun hc15 => absurd (by decide) hc15)
    exact hx σ' M hk hg hz (fun p hp => h1 p (Nat.zero_le _) hp) hM
  | succ i ih =>
    intro hi σ' M hk hg hz h1 h2 hM
    rw [pk_m1]
    have hR : A / B9 ^ (i + 1) % b < b := Nat.mod_lt _ hb0
    have da : dg A i < 1000000000 := dg_lt A i
    have hla' := h2 i (by omega)
    have hB9 : B9 = 1000000000 := rfl
    refine x_iload (q := 15) dX9_divideSmall_13 rfl rfl ?_
    refine xn_if_lt (q := 18) 71 dX9_divideSmall_15 (by decide) rfl (by omega) (fun hc15 => absurd hc15 (by omega)) (fun hc15 => ?_)
    refine x_lload (q := 20) dX9_divideSmall_18 rfl rfl ?_
    refine xn_ldc2 (q := 23) 1000000000 dX9_divideSmall_20 rfl cwX9_100 ?_
    refine xn_lmul (q := 24) dX9_divideSmall_23 rfl ?_
    refine x_aload_n (q := 25) dX9_divideSmall_24 rfl rfl ?_
    refine m_get (q := 28) hM 14 fwX9_41 (by decide) dX9_divideSmall_25 rfl rfl ?_
    refine xn_sipush (q := 31) 400 dX9_divideSmall_28 rfl (by decide) ?_
    refine x_iload_n (q := 32) dX9_divideSmall_31 rfl rfl ?_
    refine xn_imul (q := 33) dX9_divideSmall_32 rfl ?_
    refine x_iload (q := 35) dX9_divideSmall_33 rfl rfl ?_
    refine xn_iadd (q := 36) dX9_divideSmall_35 rfl ?_
    refine m_iald (q := 37) hM (n := 6400) (by decide) dX9_divideSmall_36 rfl (by omega) ?_
    rw [hla']
    refine xn_i2l (q := 38) dX9_divideSmall_37 rfl (by omega) ?_
    refine xn_ladd (q := 39) dX9_divideSmall_38 rfl ?_
    refine x_lstore (q := 41) (ls' := [(0, _), (1, _), (2, _), (4, _), (6, _), (7, _)]) [1, 2, 3, 4, 5, 0] dX9_divideSmall_39 rfl (by decide) rfl ?_
    refine x_aload_n (q := 42) dX9_divideSmall_41 rfl rfl ?_
    refine m_get (q := 45) hM 14 fwX9_41 (by decide) dX9_divideSmall_42 rfl rfl ?_
    refine xn_sipush (q := 48) 400 dX9_divideSmall_45 rfl (by decide) ?_
    refine x_iload_n (q := 49) dX9_divideSmall_48 rfl rfl ?_
    refine xn_imul (q := 50) dX9_divideSmall_49 rfl ?_
    refine x_iload (q := 52) dX9_divideSmall_50 rfl rfl ?_
    refine xn_iadd (q := 53) dX9_divideSmall_52 rfl ?_
    refine x_lload (q := 55) dX9_divideSmall_53 rfl rfl ?_
    refine x_lload_n (q := 56) dX9_divideSmall_55 rfl rfl ?_
    refine xn_ldiv (q := 57) dX9_divideSmall_56 rfl (by omega) hb0 (by omega) ?_
    refine xn_l2i (q := 58) dX9_divideSmall_57 rfl ?_
    refine m_limb (q := 59) hM r dX9_divideSmall_58 rfl (by omega) (by omega) (by omega) (fun M σ58 k58 e58 f58 g58 i58 hM => ?_)
    refine x_lload (q := 61) dX9_divideSmall_59 rfl rfl ?_
    refine x_lload_n (q := 62) dX9_divideSmall_61 rfl rfl ?_
    refine xn_lrem (q := 63) dX9_divideSmall_62 rfl (by omega) hb0 (by omega) ?_
    refine x_lstore (q := 65) (ls' := [(0, _), (1, _), (2, _), (4, _), (6, _), (7, _)]) [1, 2, 3, 0, 4, 5] dX9_divideSmall_63 rfl (by decide) rfl ?_
    refine x_iinc (q := 68) (ls' := [(0, _), (1, _), (2, _), (4, _), (6, _), (7, _)]) [1, 2, 3, 4, 0, 5] (-1) dX9_divideSmall_65 rfl rfl (by decide) (by decide) rfl ?_
    refine x_goto 13 dX9_divideSmall_68 (by decide) ?_
    refine x_ls (ls' := [(0, _), (1, _), (2, _), (4, _), (6, _)]) [0, 1, 2, 3, 4] rfl ?_
    obtain ⟨s1, s2⟩ := ds_step (A := A) (k := i) hb0
    have s1 : dg (A / b) i = (A / B9 ^ (i + 1) % b * 1000000000 + dg A i) / b := s1
    have s2 : A / B9 ^ i % b = (A / B9 ^ (i + 1) % b * 1000000000 + dg A i) % b := s2
    rw [← s2]
    refine ih (by omega) σ58 M (hk.trans k58) (i58.trans hg) (g58.trans hz) (fun p hp hp2 => ?_) (fun p hp => ?_) hM
    · by_cases e : p = i
      · rw [e, s1]; exact e58
      · rw [f58 _ (by omega)]; exact h1 p (by omega) hp2
    · rw [f58 _ (by omega)]; exact h2 p (by omega)
set_option maxRecDepth 100000 in
set_option maxHeartbeats 4000000 in
theorem c_divideSmall (G : xG) (l : Launch) (o : Nat) (as : Nat → Nat) (M0 : xM) (N S : Nat) (d : Nat) (r : Nat) (hr : r < 16) (b : Nat) (hb0 : 0 < b) (hb : b ≤ 1000000000) (σ : mS) (v : Int) (hv0 : 0 ≤ v) (hv : Reg σ r v) : mC G l o as M0 N S YX9_divideSmall (d + 1) [.int (nI r), .long (lN b)] σ (fun x σ' => x = some (.long (lN (v.natAbs % b))) ∧ keep r σ σ' ∧ Reg σ' r ((v.natAbs / b : Nat) : Int)) := by
  obtain ⟨na, hn4, hna, hza, hga, hla⟩ := hv
  have hlt : v.natAbs / b < B9 ^ na := Nat.lt_of_le_of_lt (Nat.div_le_self _ _) hna.1
  refine mC.of (ls := [(0, .ref o), (1, .int (nI r)), (2, .long (lN b))]) (by decide) (Nat.le_of_ble_eq_true rfl) rfl fun M hM => ?_
  refine xn_lconst (q := 1) 0 dX9_divideSmall_0 rfl (by decide) ?_
  refine x_lstore (q := 3) (ls' := [(0, _), (1, _), (2, _), (4, _)]) [1, 2, 3, 0] dX9_divideSmall_1 rfl (by decide) rfl ?_
  refine x_aload_n (q := 4) dX9_divideSmall_3 rfl rfl ?_
  refine m_get (q := 7) hM 15 fwX9_44 (by decide) dX9_divideSmall_4 rfl rfl ?_
  refine x_iload_n (q := 8) dX9_divideSmall_7 rfl rfl ?_
  refine m_iald (q := 9) hM (n := 16) (by decide) dX9_divideSmall_8 rfl (by omega) ?_
  rw [hza]
  refine x_iconst (q := 10) (1) dX9_divideSmall_9 rfl (by decide) ?_
  refine x_isub (q := 11) dX9_divideSmall_10 rfl ?_
  refine x_topi (Int32.sub_eq_add_neg ..) ?_
  refine x_istore (q := 13) (ls' := [(0, _), (1, _), (2, _), (4, _), (6, _)]) [1, 2, 3, 4, 0] dX9_divideSmall_11 rfl (by decide) rfl ?_
  have h5 := c_ds_loop G l o as M0 N S (d + 1) r hr v.natAbs b na hb0 hb hn4 σ (mQ o as M0 N S (fun x σ' => x = some (.long (lN (v.natAbs % b))) ∧ keep r σ σ' ∧ Reg σ' r ((v.natAbs / b : Nat) : Int))) (fun σ1 M hk hg hz h1 hM => ?_) na (Nat.le_refl _) σ M keep.rfl' rfl rfl (fun p h1 h2 => absurd h1 (by omega)) hla hM
  · rw [Nat.div_eq_of_lt hna.1, Nat.zero_mod] at h5; exact h5
  · have hz1 : σ1.2.1 15 r = nI na := by rw [hz]; exact hza
    refine x_aload_n (q := 72) dX9_divideSmall_71 rfl rfl ?_
    refine x_iload_n (q := 73) dX9_divideSmall_72 rfl rfl ?_
    refine x_aload_n (q := 74) dX9_divideSmall_73 rfl rfl ?_
    refine m_get (q := 77) hM 15 fwX9_44 (by decide) dX9_divideSmall_74 rfl rfl ?_
    refine x_iload_n (q := 78) dX9_divideSmall_77 rfl rfl ?_
    refine m_iald (q := 79) hM (n := 16) (by decide) dX9_divideSmall_78 rfl (by omega) ?_
    rw [hz1]
    refine m_call (q := 82) (As := [_, _]) hM imX9_trim ivX9_trim ilX9_trim mwX9_103 xciX9 dX9_divideSmall_79 rfl rfl rfl (by decide) ?_
    refine (c_trim G l o as M0 N S d r na hr hn4 σ1 (dg (v.natAbs / b)) ((v.natAbs / b : Nat) : Int) (fun j _ => dg_lt _ _) h1 (by rw [val_dg hlt, Int.natAbs_natCast]) (fun h => by rw [hg, hga]; exact sg_div hv0 h)).mono (fun x σ9 hp => ?_)
    obtain ⟨rfl, k9, r9⟩ := hp
    intro M hM
    show xX G l _ (d + 1) _ _ _ [] M N S
    refine x_lload (q := 84) dX9_divideSmall_82 rfl rfl ?_
    exact x_lret rfl dX9_divideSmall_84 (m_ret hM ⟨rfl, hk.trans k9, r9⟩)
end XR7
