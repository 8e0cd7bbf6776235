section XB1
set_option maxRecDepth 100000 in
set_option maxHeartbeats 4000000 in
theorem b_reduce (G : xG) (l : Launch) (ad : Nat → Nat) (F : xM) (R : Nat × Nat) (d : Nat) (σ : cZ) (u v : Int) (hu : Bg σ 171 u) (hv : Bg σ 172 v) (hul : u.natAbs < B9 ^ 1000) (hvl : v.natAbs < B9 ^ 1000) (hdv : DvOk σ 10) : cC G l ad F R YX6_reduce (d + 5) [.ref (ad 8)] σ (fun r σ' => r = none ∧ kp [10, 177, 277, 178, 278, 179, 279, 171, 271, 172, 272, 173, 273] σ σ' ∧ DvOk σ' 10 ∧ Bg σ' 171 (u.tdiv ((Nat.gcd u.natAbs v.natAbs : Nat) : Int)) ∧ Bg σ' 172 (v.tdiv ((Nat.gcd u.natAbs v.natAbs : Nat) : Int))) := by
  have hut := Nat.lt_of_lt_of_le hul (B9_mono (show 1000 ≤ 1024 by decide))
  have hvt := Nat.lt_of_lt_of_le hvl (B9_mono (show 1000 ≤ 1024 by decide))
  refine cC.of (ls := [(0, .ref (ad 8))]) (by decide) (Nat.le_of_ble_eq_true rfl) rfl fun M N S hM => ?_

  refine x_aload_n (q := 1) dX6_reduce_0 rfl rfl ?_
  refine c_get (q := 4) (k := 8) (f := 2) hM rfl xclX6 fwX6_22 (by decide) dX6_reduce_1 rfl rfl ?_
  refine x_aload_n (q := 5) dX6_reduce_4 rfl rfl ?_
  refine c_get (q := 8) (k := 8) (f := 0) hM rfl xclX6 fwX6_10 (by decide) dX6_reduce_5 rfl rfl ?_
  refine x_aload_n (q := 9) dX6_reduce_8 rfl rfl ?_
  refine c_get (q := 12) (k := 8) (f := 1) hM rfl xclX6 fwX6_16 (by decide) dX6_reduce_9 rfl rfl ?_
  refine c_call (q := 15) (k := 10) (As := [_, _]) hM rfl imX3_of ivX3_of ilX3_of mwX6_29 xciX3 dX6_reduce_12 rfl rfl rfl (Nat.le_of_ble_eq_true rfl) ?_
  refine (b_of G l ad F R d σ 10 171 172 (.inr rfl) ⟨by decide, by decide⟩ ⟨by decide, by decide⟩ (by decide) (by decide) u v hu hv hul hvl hdv).mono (fun x9 σ12 hp => ?_)
  obtain ⟨o1, o2, p, hp, rfl, o3⟩ := hp
  intro M N S hM
  show xX G l _ (d + 5) _ _ _ _ M N S
  have hpb : isBg p := by unfold isBg; omega
  refine x_astore_n (q := 16) (ls' := [(0, _), (1, _)]) [1, 0] dX6_reduce_15 rfl (by decide) rfl ?_
  refine x_aload_n (q := 17) dX6_reduce_16 rfl rfl ?_
  refine c_get (q := 20) (k := 8) (f := 3) hM rfl xclX6 fwX6_26 (by decide) dX6_reduce_17 rfl rfl ?_
  refine x_aload_n (q := 21) dX6_reduce_20 rfl rfl ?_
  refine c_get (q := 24) (k := 8) (f := 0) hM rfl xclX6 fwX6_10 (by decide) dX6_reduce_21 rfl rfl ?_
  refine c_call (q := 27) (k := 173) (As := [_]) hM (cE_big _ _ ⟨by decide, by decide⟩) imX2_take ivX2_take ilX2_take mwX6_33 xciX2 dX6_reduce_24 rfl rfl rfl (Nat.le_of_ble_eq_true rfl) ?_
  refine (b_take G l ad F R (d + 1) σ12 173 171 ⟨by decide, by decide⟩ ⟨by decide, by decide⟩ (by decide) u (o1.bg (by decide) (by decide) hu) hut).mono (fun x9 σ24 hp => ?_)
  obtain ⟨rfl, k24, r24⟩ := hp
  intro M N S hM
  show xX G l _ (d + 5) _ _ _ _ M N S
  refine x_aload_n (q := 28) dX6_reduce_27 rfl rfl ?_
  refine c_get (q := 31) (k := 8) (f := 3) hM rfl xclX6 fwX6_26 (by decide) dX6_reduce_28 rfl rfl ?_
  refine x_aload_n (q := 32) dX6_reduce_31 rfl rfl ?_
  refine x_aload_n (q := 33) dX6_reduce_32 rfl rfl ?_
  refine c_get (q := 36) (k := 8) (f := 0) hM rfl xclX6 fwX6_10 (by decide) dX6_reduce_33 rfl rfl ?_
  refine c_call (q := 39) (k := 173) (As := [_, _]) hM (cE_big _ _ ⟨by decide, by decide⟩) imX2_split ivX2_split ilX2_split mwX6_37 xciX2 dX6_reduce_36 rfl rfl rfl (Nat.le_of_ble_eq_true rfl) ?_
  have o4 : Bg σ24 p _ := k24.bg (by simp; omega) (by simp; omega) o3
  refine (b_split G l ad F R (d + 1) σ24 173 p 171 ⟨by decide, by decide⟩ hpb ⟨by decide, by decide⟩ (by omega) (by decide) (by omega) u _ r24 o4 hul).mono (fun x9 σ36 hp => ?_)
  obtain ⟨rfl, k36, r36, q36⟩ := hp
  intro M N S hM
  show xX G l _ (d + 5) _ _ _ _ M N S
  refine x_aload_n (q := 40) dX6_reduce_39 rfl rfl ?_
  refine c_get (q := 43) (k := 8) (f := 3) hM rfl xclX6 fwX6_26 (by decide) dX6_reduce_40 rfl rfl ?_
  refine x_aload_n (q := 44) dX6_reduce_43 rfl rfl ?_
  refine c_get (q := 47) (k := 8) (f := 1) hM rfl xclX6 fwX6_16 (by decide) dX6_reduce_44 rfl rfl ?_
  refine c_call (q := 50) (k := 173) (As := [_]) hM (cE_big _ _ ⟨by decide, by decide⟩) imX2_take ivX2_take ilX2_take mwX6_33 xciX2 dX6_reduce_47 rfl rfl rfl (Nat.le_of_ble_eq_true rfl) ?_
  have v4 : Bg σ36 172 v := k36.bg (by decide) (by decide) (k24.bg (by decide) (by decide) (o1.bg (by decide) (by decide) hv))
  refine (b_take G l ad F R (d + 1) σ36 173 172 ⟨by decide, by decide⟩ ⟨by decide, by decide⟩ (by decide) v v4 hvt).mono (fun x9 σ47 hp => ?_)
  obtain ⟨rfl, k47, r47⟩ := hp
  intro M N S hM
  show xX G l _ (d + 5) _ _ _ _ M N S
  refine x_aload_n (q := 51) dX6_reduce_50 rfl rfl ?_
  refine c_get (q := 54) (k := 8) (f := 3) hM rfl xclX6 fwX6_26 (by decide) dX6_reduce_51 rfl rfl ?_
  refine x_aload_n (q := 55) dX6_reduce_54 rfl rfl ?_
  refine x_aload_n (q := 56) dX6_reduce_55 rfl rfl ?_
  refine c_get (q := 59) (k := 8) (f := 1) hM rfl xclX6 fwX6_16 (by decide) dX6_reduce_56 rfl rfl ?_
  refine c_call (q := 62) (k := 173) (As := [_, _]) hM (cE_big _ _ ⟨by decide, by decide⟩) imX2_split ivX2_split ilX2_split mwX6_37 xciX2 dX6_reduce_59 rfl rfl rfl (Nat.le_of_ble_eq_true rfl) ?_
  have o5 : Bg σ47 p _ := k47.bg (by simp; omega) (by simp; omega) (k36.bg (by simp; omega) (by simp; omega) o4)
  refine (b_split G l ad F R (d + 1) σ47 173 p 172 ⟨by decide, by decide⟩ hpb ⟨by decide, by decide⟩ (by omega) (by decide) (by omega) v _ r47 o5 hvl).mono (fun x9 σ59 hp => ?_)
  obtain ⟨rfl, k59, r59, q59⟩ := hp
  intro M N S hM
  show xX G l _ (d + 5) _ _ _ _ M N S
  have kz : kp [10, 177, 277, 178, 278, 179, 279, 171, 271, 172, 272, 173, 273] σ σ59 := (o1.mono (by intro j hj; simp at hj ⊢; omega)).trans ((k24.mono (by intro j hj; simp at hj ⊢; omega)).trans ((k36.mono (by intro j hj; simp at hj ⊢; omega)).trans ((k47.mono (by intro j hj; simp at hj ⊢; omega)).trans (k59.mono (by intro j hj; simp at hj ⊢; omega)))))
  exact x_vret rfl dX6_reduce_62 (c_ret hM ⟨rfl, kz, by unfold DvOk; rw [k59 10 (by decide), k47 10 (by decide), k36 10 (by decide), k24 10 (by decide)]; exact o2, k59.bg (by decide) (by decide) (k47.bg (by decide) (by decide) q36), q59⟩)

set_option maxRecDepth 100000 in
set_option maxHeartbeats 4000000 in
theorem b_part (G : xG) (l : Launch) (ad : Nat → Nat) (F : xM) (R : Nat × Nat) (d : Nat) (σ : cZ) (p u v : Int) (hp : -1 ≤ p) (hp2 : p < 2147483648) (hu : Bg σ 171 u) (hv : Bg σ 172 v) : cC G l ad F R YX6_part (d + 1) [.ref (ad 8), .int (iI p)] σ (fun r σ' => r = some (.long (tellv p u v)) ∧ σ' = σ) := by
  have s13 : ∀ (M : xM) (N S : Nat), 0 ≤ p → cA G ad F R σ M N S → xX G l YX6_part (d + 1) (cQ G ad F R (fun r σ' => r = some (.long (tellv p u v)) ∧ σ' = σ)) 13 [(0, .ref (ad 8)), (1, .int (nI p.toNat))] [] M N S := by
    intro M N S h0 hM
    have hP : p.toNat < 2147483648 := by omega
    generalize hq : p.toNat = P at *
    have et : p ≠ -1 := by omega
    have hm2 := Nat.div_mul_le_self P 2
    have ecomm : 2 * (P / 2) = P / 2 * 2 := Nat.mul_comm ..

    refine x_iload_n (q := 14) dX6_part_13 rfl rfl ?_
    refine xn_iconst (q := 15) 2 dX6_part_14 rfl (by decide) ?_
    refine xn_irem (q := 16) dX6_part_15 rfl (by omega) (by decide) (by decide) ?_
    refine xn_if_ne (q := 19) 26 dX6_part_16 (by decide) rfl (by omega) (fun hc16 => ?_) (fun hc16 => ?_)
    · refine x_aload_n (q := 27) dX6_part_26 rfl rfl ?_
      refine c_get (q := 30) (k := 8) (f := 1) hM rfl xclX6 fwX6_16 (by decide) dX6_part_27 rfl rfl ?_
      refine x_astore_n (q := 31) (ls' := [(0, _), (1, _), (2, _)]) [1, 2, 0] dX6_part_30 rfl (by decide) rfl ?_
      refine x_iload_n (q := 32) dX6_part_31 rfl rfl ?_
      refine xn_iconst (q := 33) 2 dX6_part_32 rfl (by decide) ?_
      refine xn_idiv (q := 34) dX6_part_33 rfl (by omega) (by decide) (by decide) ?_
      refine x_istore_n (q := 35) (ls' := [(0, _), (1, _), (2, _), (3, _)]) [1, 2, 3, 0] dX6_part_34 rfl (by decide) rfl ?_
      refine x_aload_n (q := 36) dX6_part_35 rfl rfl ?_
      refine xn_iconst (q := 37) 2 dX6_part_36 rfl (by decide) ?_
      refine x_iload_n (q := 38) dX6_part_37 rfl rfl ?_
      refine xn_imul (q := 39) dX6_part_38 rfl ?_
      refine xn_iconst (q := 40) 1 dX6_part_39 rfl (by decide) ?_
      refine xn_iadd (q := 41) dX6_part_40 rfl ?_
      refine c_call (q := 44) (k := 172) (As := [_]) hM (cE_big _ _ ⟨by decide, by decide⟩) imX2_limbAt ivX2_limbAt ilX2_limbAt mwX6_45 xciX2 dX6_part_41 rfl rfl rfl (Nat.le_of_ble_eq_true rfl) ?_
      refine (b_limbAt G l ad F R d σ 172 (2 * (P / 2) + 1) ⟨by decide, by decide⟩ v hv (by omega)).mono (fun x9 σ9' hp => ?_)
      obtain ⟨rfl, e9⟩ := hp
      intro M N S hM
      rw [e9] at hM; clear e9 σ9'
      show xX G l _ (d + 1) _ _ _ _ M N S
      refine xn_ldc2 (q := 47) 1000000000 dX6_part_44 rfl cwX6_49 ?_
      refine xn_lmul (q := 48) dX6_part_47 rfl ?_
      refine x_aload_n (q := 49) dX6_part_48 rfl rfl ?_
      refine xn_iconst (q := 50) 2 dX6_part_49 rfl (by decide) ?_
      refine x_iload_n (q := 51) dX6_part_50 rfl rfl ?_
      refine xn_imul (q := 52) dX6_part_51 rfl ?_
      refine c_call (q := 55) (k := 172) (As := [_]) hM (cE_big _ _ ⟨by decide, by decide⟩) imX2_limbAt ivX2_limbAt ilX2_limbAt mwX6_45 xciX2 dX6_part_52 rfl rfl rfl (Nat.le_of_ble_eq_true rfl) ?_
      refine (b_limbAt G l ad F R d σ 172 (2 * (P / 2)) ⟨by decide, by decide⟩ v hv (by omega)).mono (fun x9 σ9' hp => ?_)
      obtain ⟨rfl, e9⟩ := hp
      intro M N S hM
      rw [e9] at hM; clear e9 σ9'
      show xX G l _ (d + 1) _ _ _ _ M N S
      refine xn_ladd (q := 56) dX6_part_55 rfl ?_
      refine x_lret rfl dX6_part_56 (c_ret hM ⟨?_, rfl⟩)
      rw [tellv, if_neg et, hq, if_neg (by omega), ecomm, Nat.add_comm (dg _ _)]
    · refine x_aload_n (q := 20) dX6_part_19 rfl rfl ?_
      refine c_get (q := 23) (k := 8) (f := 0) hM rfl xclX6 fwX6_10 (by decide) dX6_part_20 rfl rfl ?_
      refine x_goto 30 dX6_part_23 (by decide) ?_
      refine x_astore_n (q := 31) (ls' := [(0, _), (1, _), (2, _)]) [1, 2, 0] dX6_part_30 rfl (by decide) rfl ?_
      refine x_iload_n (q := 32) dX6_part_31 rfl rfl ?_
      refine xn_iconst (q := 33) 2 dX6_part_32 rfl (by decide) ?_
      refine xn_idiv (q := 34) dX6_part_33 rfl (by omega) (by decide) (by decide) ?_
      refine x_istore_n (q := 35) (ls' := [(0, _), (1, _), (2, _), (3, _)]) [1, 2, 3, 0] dX6_part_34 rfl (by decide) rfl ?_
      refine x_aload_n (q := 36) dX6_part_35 rfl rfl ?_
      refine xn_iconst (q := 37) 2 dX6_part_36 rfl (by decide) ?_
      refine x_iload_n (q := 38) dX6_part_37 rfl rfl ?_
      refine xn_imul (q := 39) dX6_part_38 rfl ?_
      refine xn_iconst (q := 40) 1 dX6_part_39 rfl (by decide) ?_
      refine xn_iadd (q := 41) dX6_part_40 rfl ?_
      refine c_call (q := 44) (k := 171) (As := [_]) hM (cE_big _ _ ⟨by decide, by decide⟩) imX2_limbAt ivX2_limbAt ilX2_limbAt mwX6_45 xciX2 dX6_part_41 rfl rfl rfl (Nat.le_of_ble_eq_true rfl) ?_
      refine (b_limbAt G l ad F R d σ 171 (2 * (P / 2) + 1) ⟨by decide, by decide⟩ u hu (by omega)).mono (fun x9 σ9' hp => ?_)
      obtain ⟨rfl, e9⟩ := hp
      intro M N S hM
      rw [e9] at hM; clear e9 σ9'
      show xX G l _ (d + 1) _ _ _ _ M N S
      refine xn_ldc2 (q := 47) 1000000000 dX6_part_44 rfl cwX6_49 ?_
      refine xn_lmul (q := 48) dX6_part_47 rfl ?_
      refine x_aload_n (q := 49) dX6_part_48 rfl rfl ?_
      refine xn_iconst (q := 50) 2 dX6_part_49 rfl (by decide) ?_
      refine x_iload_n (q := 51) dX6_part_50 rfl rfl ?_
      refine xn_imul (q := 52) dX6_part_51 rfl ?_
      refine c_call (q := 55) (k := 171) (As := [_]) hM (cE_big _ _ ⟨by decide, by decide⟩) imX2_limbAt ivX2_limbAt ilX2_limbAt mwX6_45 xciX2 dX6_part_52 rfl rfl rfl (Nat.le_of_ble_eq_true rfl) ?_
      refine (b_limbAt G l ad F R d σ 171 (2 * (P / 2)) ⟨by decide, by decide⟩ u hu (by omega)).mono (fun x9 σ9' hp => ?_)
      obtain ⟨rfl, e9⟩ := hp
      intro M N S hM
      rw [e9] at hM; clear e9 σ9'
      show xX G l _ (d + 1) _ _ _ _ M N S
      refine xn_ladd (q := 56) dX6_part_55 rfl ?_
      refine x_lret rfl dX6_part_56 (c_ret hM ⟨?_, rfl⟩)
      rw [tellv, if_neg et, hq, if_pos (by omega), ecomm, Nat.add_comm (dg _ _)]

  refine cC.of (ls := [(0, .ref (ad 8)), (1, .int (iI p))]) (by decide) (Nat.le_of_ble_eq_true rfl) rfl fun M N S hM => ?_
  have hu0 := hu.choose_spec.2.2.1

  refine x_iload_n (q := 1) dX6_part_0 rfl rfl ?_
  refine xi_if_ge (q := 4) 13 dX6_part_1 (by decide) rfl rfl (by omega) (by omega) (fun hc1 => ?_) (fun hc1 => ?_)
  · rw [iI_nat hc1]
    exact s13 M N S hc1 hM
  · refine x_aload_n (q := 5) dX6_part_4 rfl rfl ?_
    refine c_get (q := 8) (k := 8) (f := 0) hM rfl xclX6 fwX6_10 (by decide) dX6_part_5 rfl rfl ?_
    refine c_getN (q := 11) (k := 171) (f := 0) hM (cE_big _ _ ⟨by decide, by decide⟩) xclX2 fnX6_41 (by decide) dX6_part_8 rfl rfl ?_
    refine x_i2l (q := 12) dX6_part_11 rfl ?_
    exact x_lret rfl dX6_part_12 (c_ret hM ⟨by rw [tellv, if_pos (by omega), hu0], rfl⟩)

end XB1
