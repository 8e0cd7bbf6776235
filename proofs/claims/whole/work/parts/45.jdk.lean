section XW
theorem lxor_neg {x y : Int64} (hy : 0 ≤ y.toInt) : (x ^^^ y).toInt < 0 ↔ x.toInt < 0 := by
  have h1 : ∀ z : Int64, z.toBitVec.msb = decide (z.toInt < 0) := fun z => BitVec.msb_eq_toInt
  have h2 := h1 (x ^^^ y)
  rw [Int64.toBitVec_xor, BitVec.msb_xor, h1 x, h1 y, show decide (y.toInt < 0) = false by simp; omega, Bool.xor_false] at h2
  simpa [eq_comm] using h2
theorem l_signum (x : Int64) : ((x >>> ((63 : Int32).toInt64 &&& 63)) ||| (((-x).toUInt64 >>> ((63 : Int32).toInt64.toUInt64 &&& Int64.toUInt64 63)).toInt64)).toInt32 = sg x.toInt := by
  sorry

set_option maxRecDepth 100000 in
set_option maxHeartbeats 4000000 in
theorem j_max (G : xG) (l : Launch) (d : Nat) (M : xM) (N S : Nat) (a b : Nat) (ha : a < 2 ^ 31) (hb : b < 2 ^ 31) : xC G l YJ9_max_7cf53 d [.int (nI a), .int (nI b)] M N S (fun r M' N' S' => r = some (.int (nI (max a b))) ∧ M' = M ∧ N' = N ∧ S' = S) := by
  refine xC.of (ls := [(0, .int (nI a)), (1, .int (nI b))]) (by decide) (Nat.le_of_ble_eq_true rfl) rfl ?_

  refine x_iload_n (q := 1) dJ9_max_7cf53_0 rfl rfl ?_
  refine x_iload_n (q := 2) dJ9_max_7cf53_1 rfl rfl ?_
  refine xn_icmp_lt (q := 5) 9 dJ9_max_7cf53_2 (by decide) rfl (by omega) (by omega) (fun hc2 => ?_) (fun hc2 => ?_)
  · refine x_iload_n (q := 10) dJ9_max_7cf53_9 rfl rfl ?_
    exact x_iret rfl dJ9_max_7cf53_10 ⟨by congr 3; omega, rfl, rfl, rfl⟩
  · refine x_iload_n (q := 6) dJ9_max_7cf53_5 rfl rfl ?_
    refine x_goto 10 dJ9_max_7cf53_6 (by decide) ?_
    exact x_iret rfl dJ9_max_7cf53_10 ⟨by congr 3; omega, rfl, rfl, rfl⟩

set_option maxRecDepth 100000 in
set_option maxHeartbeats 4000000 in
theorem j_min (G : xG) (l : Launch) (d : Nat) (M : xM) (N S : Nat) (a b : Nat) (ha : a < 2 ^ 31) (hb : b < 2 ^ 31) : xC G l YJ9_min_7cf53 d [.int (nI a), .int (nI b)] M N S (fun r M' N' S' => r = some (.int (nI (min a b))) ∧ M' = M ∧ N' = N ∧ S' = S) := by
  refine xC.of (ls := [(0, .int (nI a)), (1, .int (nI b))]) (by decide) (Nat.le_of_ble_eq_true rfl) rfl ?_

  refine x_iload_n (q := 1) dJ9_min_7cf53_0 rfl rfl ?_
  refine x_iload_n (q := 2) dJ9_min_7cf53_1 rfl rfl ?_
  refine xn_icmp_gt (q := 5) 9 dJ9_min_7cf53_2 (by decide) rfl (by omega) (by omega) (fun hc2 => ?_) (fun hc2 => ?_)
  · refine x_iload_n (q := 10) dJ9_min_7cf53_9 rfl rfl ?_
    exact x_iret rfl dJ9_min_7cf53_10 ⟨by congr 3; omega, rfl, rfl, rfl⟩
  · refine x_iload_n (q := 6) dJ9_min_7cf53_5 rfl rfl ?_
    refine x_goto 10 dJ9_min_7cf53_6 (by decide) ?_
    exact x_iret rfl dJ9_min_7cf53_10 ⟨by congr 3; omega, rfl, rfl, rfl⟩

set_option maxRecDepth 100000 in
set_option maxHeartbeats 4000000 in
theorem j_signum (G : xG) (l : Launch) (d : Nat) (M : xM) (N S : Nat) (x : Int64) : xC G l YJ13_signum_95d88 d [.long x] M N S (fun r M' N' S' => r = some (.int (sg x.toInt)) ∧ M' = M ∧ N' = N ∧ S' = S) := by
  refine xC.of (ls := [(0, .long x)]) (by decide) (Nat.le_of_ble_eq_true rfl) rfl ?_
  refine x_lload_n (q := 1) dJ13_signum_95d88_0 rfl rfl ?_
  refine x_bipush (q := 3) 63 dJ13_signum_95d88_1 rfl (by decide) ?_
  refine x_lshr (q := 4) dJ13_signum_95d88_3 rfl ?_
  refine x_lload_n (q := 5) dJ13_signum_95d88_4 rfl rfl ?_
  refine x_lneg (q := 6) dJ13_signum_95d88_5 rfl ?_
  refine x_bipush (q := 8) 63 dJ13_signum_95d88_6 rfl (by decide) ?_
  refine x_lushr (q := 9) dJ13_signum_95d88_8 rfl ?_
  refine x_lor (q := 10) dJ13_signum_95d88_9 rfl ?_
  refine x_l2i (q := 11) dJ13_signum_95d88_10 rfl ?_
  exact x_iret rfl dJ13_signum_95d88_11 ⟨by rw [l_signum], rfl, rfl, rfl⟩

set_option maxRecDepth 100000 in
set_option maxHeartbeats 4000000 in
theorem j_floorDiv (G : xG) (l : Launch) (d : Nat) (M : xM) (N S : Nat) (x : Int) (h1 : -4000000000000000000 ≤ x) (h2 : x ≤ 4000000000000000000) : xC G l YJ9_floorDiv_f86c9 d [.long (iL x), .long (lN 1000000000)] M N S (fun r M' N' S' => r = some (.long (iL (x / 1000000000))) ∧ M' = M ∧ N' = N ∧ S' = S) := by
  have hb : (lN 1000000000).toInt = 1000000000 := by decide
  have hx : (iL x).toInt = x := iL_t (by omega) (by omega)
  have ht1 : 0 ≤ x → x.tdiv 1000000000 = x / 1000000000 := fun h => Int.tdiv_eq_ediv_of_nonneg h
  have ht2 : x < 0 → x.tdiv 1000000000 = -((-x) / 1000000000) := fun h => by
    have := Int.tdiv_eq_ediv_of_nonneg (a := -x) (b := 1000000000) (by omega)
    rw [Int.neg_tdiv] at this
    omega
  have hcb : -4000000000000000000 ≤ x.tdiv 1000000000 * 1000000000 ∧ x.tdiv 1000000000 * 1000000000 ≤ 4000000000000000000 := by
    rcases Int.lt_or_le x 0 with h | h
    · rw [ht2 h]; omega
    · rw [ht1 h]; omega
  have lx : lN 0 ≤ iL x ^^^ lN 1000000000 ↔ 0 ≤ x := by
    have h0 := lxor_neg (x := iL x) (y := lN 1000000000) (by rw [hb]; decide)
    rw [hx] at h0
    rw [Int64.le_iff_toInt_le]
    have h9 : (lN 0).toInt = 0 := rfl
    omega
  refine xC.of (ls := [(0, .long (iL x)), (2, .long (lN 1000000000))]) (by decide) (Nat.le_of_ble_eq_true rfl) rfl ?_

  refine x_lload_n (q := 1) dJ9_floorDiv_f86c9_0 rfl rfl ?_
  refine x_lload_n (q := 2) dJ9_floorDiv_f86c9_1 rfl rfl ?_
  refine xi_ldiv (q := 3) dJ9_floorDiv_f86c9_2 rfl rfl (lN_i' _) (by omega) (by omega) (by omega) (by omega) (by omega) ?_
  refine x_lstore (q := 5) (ls' := [(0, _), (2, _), (4, _)]) [1, 2, 0] dJ9_floorDiv_f86c9_3 rfl (by decide) rfl ?_
  refine x_lload_n (q := 6) dJ9_floorDiv_f86c9_5 rfl rfl ?_
  refine x_lload_n (q := 7) dJ9_floorDiv_f86c9_6 rfl rfl ?_
  refine x_lxor (q := 8) dJ9_floorDiv_f86c9_7 rfl ?_
  refine xn_lconst (q := 9) 0 dJ9_floorDiv_f86c9_8 rfl (by decide) ?_
  refine x_lcmp_ge (q1 := 10) (q := 13) 27 dJ9_floorDiv_f86c9_9 rfl dJ9_floorDiv_f86c9_10 (by decide) rfl (fun hc9 => ?_) (fun hc9 => ?_)
  · refine x_lload (q := 29) dJ9_floorDiv_f86c9_27 rfl rfl ?_
    exact x_lret rfl dJ9_floorDiv_f86c9_29 ⟨by have g9 := lx.mp hc9; congr 3; exact ht1 g9, rfl, rfl, rfl⟩
  · refine x_lload (q := 15) dJ9_floorDiv_f86c9_13 rfl rfl ?_
    refine x_lload_n (q := 16) dJ9_floorDiv_f86c9_15 rfl rfl ?_
    refine xi_lmul (q := 17) dJ9_floorDiv_f86c9_16 rfl rfl (lN_i' _) ?_
    refine x_lload_n (q := 18) dJ9_floorDiv_f86c9_17 rfl rfl ?_
    refine xi_lcmp_eq (q1 := 19) (q := 22) 27 dJ9_floorDiv_f86c9_18 rfl dJ9_floorDiv_f86c9_19 (by decide) rfl rfl rfl (by omega) (by omega) (by omega) (by omega) (fun hc18 => ?_) (fun hc18 => ?_)
    · refine x_lload (q := 29) dJ9_floorDiv_f86c9_27 rfl rfl ?_
      exact x_lret rfl dJ9_floorDiv_f86c9_29 ⟨by have g9 := fun h => hc9 (lx.mpr h); congr 3; have g8 := ht2 (Int.not_le.mp g9); omega, rfl, rfl, rfl⟩
    · refine x_lload (q := 24) dJ9_floorDiv_f86c9_22 rfl rfl ?_
      refine xn_lconst (q := 25) 1 dJ9_floorDiv_f86c9_24 rfl (by decide) ?_
      refine xi_lsub (q := 26) dJ9_floorDiv_f86c9_25 rfl rfl (lN_i' _) ?_
      exact x_lret rfl dJ9_floorDiv_f86c9_26 ⟨by have g9 := fun h => hc9 (lx.mpr h); congr 3; have g8 := ht2 (Int.not_le.mp g9); omega, rfl, rfl, rfl⟩

end XW
