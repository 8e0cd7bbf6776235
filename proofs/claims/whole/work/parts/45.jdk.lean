section XW
theorem Met.ofWF {l : Launch} {y : MethodName} {ws ws' : List Cond} {rm : Room} {Pc : Array Value → State → Prop} {Qc : Array Value → State → Outcome → State → Prop} {mc ms : Nat} {free : Addr → Prop} {cc : ByteArray} {maxL : Nat} {ret : Option FieldType}
    (hy : plainFor y = true) (hw : ws = Cond.code y cc maxL ret :: ws')
    (body : ∀ p e s m args below meth c s₁, BodyLoose p l y (headSpec ws rm) cc maxL ret e s m args below meth c s₁ → c.maxLocals = maxL → Pc args s →
      W p l e (headSpec ws rm).room s m args below meth c s.heap [] 0 0 (MQ below Qc args s mc ms free) (entryFrame m args maxL)) : Met l y ws rm Pc Qc mc ms free := by
  refine MetFree.of_bodySF (code := cc) (maxLocals := maxL) (ret := ret) hy ?_ ?_
  · intro args s m h hn
    obtain ⟨meth, c, h1, h2, h3, h4, h5, h6, -, -⟩ := Cond.code_spec hn (atoms_spec (ws := ws) h _ (by rw [hw]; exact List.mem_cons_self))
    exact ⟨meth, c, h1, h2, h3, h4, h5, h6⟩
  · intro p e s m args below meth c s₁ B hml hP _
    obtain ⟨t, a1, o, b1, b2, b3⟩ := body p e s m args below meth c s₁ B hml hP s₁ (by rw [B.state]; rfl) (Stand.of_body B)
    exact ⟨t, o, a1, b1, b2, ⟨b3.1, b3.2⟩⟩
theorem xC.ofP {G : xG} {l : Launch} {Y : xY} {d : Nat} {av : List Value} {M : xM} {N S : Nat} {Q : xPost} {ls : List (Nat × Value)} (hpl : plainFor Y.1 = true) (hlen : (lg_sl av).length ≤ Y.2.2.1) (hls : lv_args 0 av = ls) (hX : xX G l Y d Q 0 ls [] M N S) : xC G l Y d av M N S Q := by
  intro hN hS
  refine Met.ofWF (cc := Y.2.1) (maxL := Y.2.2.1) (ret := Y.2.2.2) hpl rfl ?_
  intro p e s m args below meth c s₁ B hml hv
  obtain ⟨rfl, hsz, hsl, hP, hK⟩ := hv
  have hts := atoms_spec (ws := Cond.code Y.1 Y.2.1 Y.2.2.1 Y.2.2.2 :: xW) B.pre
  have hown : s.vm.findClass Y.1.cls = some m.cls := findClass_of_methodNamed B.named
  subst hsz; subst hsl
  have hl := lv_entry av (n := Y.2.2.1) hlen
  rw [lg_entry_eq]
  have h := hX p e _ s m av.toArray below meth c s.heap [] _ ⟨B.exec, B.bytes, B.returns, B.notSynchronized, hml, hown, (name_of_methodNamed B.named B.method).1, fun w h => hts w (List.mem_cons_of_mem _ h), hK, hP.2.2, rfl⟩ ⟨hls ▸ hl, hP, rfl, rfl, Nat.le_refl _, Nat.le_refl _, fun q h => absurd h List.not_mem_nil, hN, hS⟩
  rw [Nat.sub_self, Nat.sub_self] at h
  exact h
theorem lxor_neg {x y : Int64} (hy : 0 ≤ y.toInt) : (x ^^^ y).toInt < 0 ↔ x.toInt < 0 := by
  have h1 : ∀ z : Int64, z.toBitVec.msb = decide (z.toInt < 0) := fun z => BitVec.msb_eq_toInt
  have h2 := h1 (x ^^^ y)
  rw [Int64.toBitVec_xor, BitVec.msb_xor, h1 x, h1 y, show decide (y.toInt < 0) = false by simp; omega, Bool.xor_false] at h2
  have h3 := decide_eq_decide.mp h2
  exact h3.symm
theorem l_signum (x : Int64) : ((x >>> ((63 : Int32).toInt64 &&& 63)) ||| (((-x).toUInt64 >>> ((63 : Int32).toInt64.toUInt64 &&& Int64.toUInt64 63)).toInt64)).toInt32 = sg x.toInt := by
  have e1 : ((63 : Int32).toInt64 &&& 63) = 63 := by decide
  have e2 : ((63 : Int32).toInt64.toUInt64 &&& Int64.toUInt64 63) = 63 := by decide
  rw [e1, e2]
  have hlo := x.minValue_le_toInt
  have hhi : x.toInt ≤ 9223372036854775807 := x.toInt_le
  have hlo2 : -9223372036854775808 ≤ x.toInt := x.minValue_le_toInt
  have ha : (x >>> (63 : Int64)).toInt = x.toInt / 2 ^ 63 := by
    show (x >>> (63 : Int64)).toBitVec.toInt = _
    rw [Int64.toBitVec_shiftRight]
    have : BitVec.smod (63 : Int64).toBitVec 64 = 63#64 := by decide
    rw [this, BitVec.sshiftRight', BitVec.toInt_sshiftRight, Int.shiftRight_eq_div_pow]
    rfl
  have hu : ∀ y : Int64, ((y.toUInt64 >>> (63 : UInt64)).toInt64).toBitVec = y.toBitVec >>> 63 := fun y => by
    rfl
  unfold sg
  split
  · rename_i h
    have : x >>> (63 : Int64) = -1 := by
      apply Int64.toInt_inj.mp
      rw [ha]
      have : (-1 : Int64).toInt = -1 := rfl
      rw [this]
      omega
    rw [this]
    have : ∀ z : Int64, (-1 : Int64) ||| z = -1 := fun z => by
      apply Int64.toBitVec_inj.mp
      rw [Int64.toBitVec_or]
      have : (-1 : Int64).toBitVec = BitVec.allOnes 64 := by decide
      rw [this, BitVec.allOnes_or]
    rw [this]
    rfl
  · have h0 : x >>> (63 : Int64) = 0 := by
      apply Int64.toInt_inj.mp
      rw [ha]
      have : (0 : Int64).toInt = 0 := rfl
      rw [this]
      omega
    rw [h0]
    split
    · rename_i h h1
      have : x = 0 := Int64.toInt_inj.mp h1
      subst this
      decide
    · rename_i h h1
      have : ((-x).toUInt64 >>> (63 : UInt64)).toInt64 = 1 := by
        apply Int64.toBitVec_inj.mp
        rw [hu]
        apply BitVec.eq_of_toNat_eq
        rw [BitVec.toNat_ushiftRight, Nat.shiftRight_eq_div_pow]
        have hn : (-x).toBitVec.toNat = 2 ^ 64 - x.toInt.toNat := by
          have h5 : (-x).toBitVec = -x.toBitVec := Int64.toBitVec_neg x
          rw [h5, BitVec.toNat_neg]
          have h6 : x.toBitVec.toNat = x.toInt.toNat := by
            have : x.toInt = x.toBitVec.toInt := rfl
            rw [this, BitVec.toInt_eq_toNat_cond]
            have h7 := x.toBitVec.isLt
            rw [this, BitVec.toInt_eq_toNat_cond] at h
            split at h <;> split <;> omega
          rw [h6]
          omega
        rw [hn]
        have : (1 : Int64).toBitVec.toNat = 1 := rfl
        rw [this]
        omega
      rw [this]
      decide

set_option maxRecDepth 100000 in
set_option maxHeartbeats 4000000 in
theorem j_max (G : xG) (l : Launch) (d : Nat) (M : xM) (N S : Nat) (a b : Nat) (ha : a < 2 ^ 31) (hb : b < 2 ^ 31) : xC G l YJ9_max_7cf53 d [.int (nI a), .int (nI b)] M N S (fun r M' N' S' => r = some (.int (nI (max a b))) ∧ M' = M ∧ N' = N ∧ S' = S) := by
  refine xC.ofP (ls := [(0, .int (nI a)), (1, .int (nI b))]) (by decide +kernel) (Nat.le_of_ble_eq_true rfl) rfl ?_

  refine x_iload_n (q := 1) dJ9_max_7cf53_0 rfl rfl ?_
  refine x_iload_n (q := 2) dJ9_max_7cf53_1 rfl rfl ?_
  refine xn_icmp_lt (q := 5) 9 dJ9_max_7cf53_2 (by decide) rfl (by omega) (by omega) (fun hc2 => ?_) (fun hc2 => ?_)
  · refine x_iload_n (q := 10) dJ9_max_7cf53_9 rfl rfl ?_
    exact x_iret rfl dJ9_max_7cf53_10 ⟨by congr 3; omega, rfl, rfl, rfl⟩
  · refine x_iload_n (q := 6) dJ9_max_7cf53_5 rfl rfl ?_
    refine x_goto 10 dJ9_max_7cf53_6 (by decide) ?_
    exact x_iret rfl dJ9_max_7cf53_10 ⟨by congr 3; omega, rfl, rfl, rfl⟩

set_option maxRecDepth 100000 in
set_option maxHeartbeats 4000000 in
theorem j_min (G : xG) (l : Launch) (d : Nat) (M : xM) (N S : Nat) (a b : Nat) (ha : a < 2 ^ 31) (hb : b < 2 ^ 31) : xC G l YJ9_min_7cf53 d [.int (nI a), .int (nI b)] M N S (fun r M' N' S' => r = some (.int (nI (min a b))) ∧ M' = M ∧ N' = N ∧ S' = S) := by
  refine xC.ofP (ls := [(0, .int (nI a)), (1, .int (nI b))]) (by decide +kernel) (Nat.le_of_ble_eq_true rfl) rfl ?_

  refine x_iload_n (q := 1) dJ9_min_7cf53_0 rfl rfl ?_
  refine x_iload_n (q := 2) dJ9_min_7cf53_1 rfl rfl ?_
  refine xn_icmp_gt (q := 5) 9 dJ9_min_7cf53_2 (by decide) rfl (by omega) (by omega) (fun hc2 => ?_) (fun hc2 => ?_)
  · refine x_iload_n (q := 10) dJ9_min_7cf53_9 rfl rfl ?_
    exact x_iret rfl dJ9_min_7cf53_10 ⟨by congr 3; omega, rfl, rfl, rfl⟩
  · refine x_iload_n (q := 6) dJ9_min_7cf53_5 rfl rfl ?_
    refine x_goto 10 dJ9_min_7cf53_6 (by decide) ?_
    exact x_iret rfl dJ9_min_7cf53_10 ⟨by congr 3; omega, rfl, rfl, rfl⟩

set_option maxRecDepth 100000 in
set_option maxHeartbeats 4000000 in
theorem j_signum (G : xG) (l : Launch) (d : Nat) (M : xM) (N S : Nat) (x : Int64) : xC G l YJ13_signum_95d88 d [.long x] M N S (fun r M' N' S' => r = some (.int (sg x.toInt)) ∧ M' = M ∧ N' = N ∧ S' = S) := by
  refine xC.of (ls := [(0, .long x)]) (by decide) (Nat.le_of_ble_eq_true rfl) rfl ?_
  refine x_lload_n (q := 1) dJ13_signum_95d88_0 rfl rfl ?_
  refine x_bipush (q := 3) 63 dJ13_signum_95d88_1 rfl (by decide) ?_
  refine x_lshr (q := 4) dJ13_signum_95d88_3 rfl ?_
  refine x_lload_n (q := 5) dJ13_signum_95d88_4 rfl rfl ?_
  refine x_lneg (q := 6) dJ13_signum_95d88_5 rfl ?_
  refine x_bipush (q := 8) 63 dJ13_signum_95d88_6 rfl (by decide) ?_
  refine x_lushr (q := 9) dJ13_signum_95d88_8 rfl ?_
  refine x_lor (q := 10) dJ13_signum_95d88_9 rfl ?_
  refine x_l2i (q := 11) dJ13_signum_95d88_10 rfl ?_
  exact x_iret rfl dJ13_signum_95d88_11 ⟨by rw [l_signum], rfl, rfl, rfl⟩

set_option maxRecDepth 100000 in
set_option maxHeartbeats 4000000 in
theorem j_floorDiv (G : xG) (l : Launch) (d : Nat) (M : xM) (N S : Nat) (x : Int) (h1 : -4000000000000000000 ≤ x) (h2 : x ≤ 4000000000000000000) : xC G l YJ9_floorDiv_f86c9 d [.long (iL x), .long (lN 1000000000)] M N S (fun r M' N' S' => r = some (.long (iL (x / 1000000000))) ∧ M' = M ∧ N' = N ∧ S' = S) := by
  have hb : (lN 1000000000).toInt = 1000000000 := by decide
  have hx : (iL x).toInt = x := iL_t (by omega) (by omega)
  have ht1 : 0 ≤ x → x.tdiv ((1000000000 : Nat) : Int) = x / 1000000000 := fun h => Int.tdiv_eq_ediv_of_nonneg h
  have ht2 : x < 0 → x.tdiv ((1000000000 : Nat) : Int) = -((-x) / 1000000000) := fun h => by
    have := Int.tdiv_eq_ediv_of_nonneg (a := -x) (b := 1000000000) (by omega)
    rw [Int.neg_tdiv] at this
    show x.tdiv 1000000000 = _
    omega
  have hcb : -4000000000000000000 ≤ x.tdiv ((1000000000 : Nat) : Int) * ((1000000000 : Nat) : Int) ∧ x.tdiv ((1000000000 : Nat) : Int) * ((1000000000 : Nat) : Int) ≤ 4000000000000000000 := by
    rcases Int.lt_or_le x 0 with h | h
    · rw [ht2 h]; omega
    · rw [ht1 h]; omega
  have lx : lN 0 ≤ iL x ^^^ lN 1000000000 ↔ 0 ≤ x := by
    have h0 := lxor_neg (x := iL x) (y := lN 1000000000) (by rw [hb]; decide)
    rw [hx] at h0
    rw [Int64.le_iff_toInt_le]
    have h9 : (lN 0).toInt = 0 := rfl
    omega
  refine xC.ofP (ls := [(0, .long (iL x)), (2, .long (lN 1000000000))]) (by decide +kernel) (Nat.le_of_ble_eq_true rfl) rfl ?_

  refine x_lload_n (q := 1) dJ9_floorDiv_f86c9_0 rfl rfl ?_
  refine x_lload_n (q := 2) dJ9_floorDiv_f86c9_1 rfl rfl ?_
  refine xi_ldiv (q := 3) dJ9_floorDiv_f86c9_2 rfl rfl (lN_i' _) (by omega) (by omega) (by omega) (by omega) trivial ?_
  refine x_lstore (q := 5) (ls' := [(0, _), (2, _), (4, _)]) [1, 2, 0] dJ9_floorDiv_f86c9_3 rfl (by decide) rfl ?_
  refine x_lload_n (q := 6) dJ9_floorDiv_f86c9_5 rfl rfl ?_
  refine x_lload_n (q := 7) dJ9_floorDiv_f86c9_6 rfl rfl ?_
  refine x_lxor (q := 8) dJ9_floorDiv_f86c9_7 rfl ?_
  refine xn_lconst (q := 9) 0 dJ9_floorDiv_f86c9_8 rfl (by decide) ?_
  refine x_lcmp_ge (q1 := 10) (q := 13) 27 dJ9_floorDiv_f86c9_9 rfl dJ9_floorDiv_f86c9_10 (by decide) rfl (fun hc9 => ?_) (fun hc9 => ?_)
  · refine x_lload (q := 29) dJ9_floorDiv_f86c9_27 rfl rfl ?_
    exact x_lret rfl dJ9_floorDiv_f86c9_29 ⟨by have g9 := lx.mp hc9; congr 3; exact ht1 g9, rfl, rfl, rfl⟩
  · refine x_lload (q := 15) dJ9_floorDiv_f86c9_13 rfl rfl ?_
    refine x_lload_n (q := 16) dJ9_floorDiv_f86c9_15 rfl rfl ?_
    refine xi_lmul (q := 17) dJ9_floorDiv_f86c9_16 rfl rfl (lN_i' _) ?_
    refine x_lload_n (q := 18) dJ9_floorDiv_f86c9_17 rfl rfl ?_
    refine xi_lcmp_eq (q1 := 19) (q := 22) 27 dJ9_floorDiv_f86c9_18 rfl dJ9_floorDiv_f86c9_19 (by decide) rfl rfl rfl (by omega) (by omega) (by omega) (by omega) (fun hc18 => ?_) (fun hc18 => ?_)
    · refine x_lload (q := 29) dJ9_floorDiv_f86c9_27 rfl rfl ?_
      exact x_lret rfl dJ9_floorDiv_f86c9_29 ⟨by have g9 := fun h => hc9 (lx.mpr h); congr 3; have g8 := ht2 (Int.not_le.mp g9); omega, rfl, rfl, rfl⟩
    · refine x_lload (q := 24) dJ9_floorDiv_f86c9_22 rfl rfl ?_
      refine xn_lconst (q := 25) 1 dJ9_floorDiv_f86c9_24 rfl (by decide) ?_
      refine xi_lsub (q := 26) dJ9_floorDiv_f86c9_25 rfl rfl (lN_i' _) ?_
      exact x_lret rfl dJ9_floorDiv_f86c9_26 ⟨by have g9 := fun h => hc9 (lx.mpr h); congr 3; have g8 := ht2 (Int.not_le.mp g9); omega, rfl, rfl, rfl⟩

set_option maxRecDepth 100000 in
set_option maxHeartbeats 4000000 in
theorem j_fillL (G : xG) (l : Launch) (d : Nat) (M : xM) (N S : Nat) (a n : Nat) (f : Nat → Int64) (v : Int64) (hn : n < 2 ^ 31) (hM : M a = some (.inl (.long, n, .inr (.inl f)))) : xC G l YJ7_fill_d0a16 d [.ref a, .long v] M N S (fun r M' N' S' => r = none ∧ N' = N ∧ S' = S ∧ ∃ f' : Nat → Int64, (∀ j, j < n → f' j = v) ∧ M' = xup M a (.inl (.long, n, .inr (.inl f')))) := by
  refine xC.of (ls := [(0, .ref a), (1, .long v)]) (by decide) (Nat.le_of_ble_eq_true rfl) rfl ?_
  have loop : ∀ (u k : Nat) (M1 : xM) (f1 : Nat → Int64), k + u = n → M1 a = some (.inl (.long, n, .inr (.inl f1))) → (∀ b, b ≠ a → M1 b = M b) → (∀ j, j < k → f1 j = v) → xX G l YJ7_fill_d0a16 d (fun r M' N' S' => r = none ∧ N' = N ∧ S' = S ∧ ∃ f' : Nat → Int64, (∀ j, j < n → f' j = v) ∧ M' = xup M a (.inl (.long, n, .inr (.inl f')))) 6 [(0, .ref a), (1, .long v), (3, .int (nI k)), (4, .int (nI n))] [] M1 N S := by
    intro u
    induction u with
    | zero =>
      intro k M1 f1 hk h1 h2 h3

      refine x_iload_n (q := 7) dJ7_fill_d0a16_6 rfl rfl ?_
      refine x_iload (q := 9) dJ7_fill_d0a16_7 rfl rfl ?_
      refine xn_icmp_ge (q := 12) 22 dJ7_fill_d0a16_9 (by decide) rfl (by omega) (by omega) (fun hc9 => ?_) (fun hc9 => absurd hc9 (by omega))
      refine x_vret rfl dJ7_fill_d0a16_22 ⟨rfl, rfl, rfl, f1, fun j hj => h3 j (by omega), funext fun b => ?_⟩
      by_cases hb : b = a
      · rw [hb, xup_s, h1]
      · rw [xup_n hb, h2 b hb]

    | succ u ih =>
      intro k M1 f1 hk h1 h2 h3

      refine x_iload_n (q := 7) dJ7_fill_d0a16_6 rfl rfl ?_
      refine x_iload (q := 9) dJ7_fill_d0a16_7 rfl rfl ?_
      refine xn_icmp_ge (q := 12) 22 dJ7_fill_d0a16_9 (by decide) rfl (by omega) (by omega) (fun hc9 => absurd hc9 (by omega)) (fun hc9 => ?_)
      refine x_aload_n (q := 13) dJ7_fill_d0a16_12 rfl rfl ?_
      refine x_iload_n (q := 14) dJ7_fill_d0a16_13 rfl rfl ?_
      refine x_lload_n (q := 15) dJ7_fill_d0a16_14 rfl rfl ?_
      refine x_last (q := 16) dJ7_fill_d0a16_15 rfl h1 (vp_in_nI (by omega) hn) ?_
      rw [nI_clamp (by omega)]
      refine xn_iinc (q := 19) (ls' := [(0, _), (1, _), (3, _), (4, _)]) [1, 2, 0, 3] 1 dJ7_fill_d0a16_16 rfl rfl (by decide) (by decide) rfl ?_
      refine x_goto 6 dJ7_fill_d0a16_19 (by decide) ?_
      refine ih (k + 1) _ _ (by omega) (xup_s _ _ _) (fun b hb => by rw [xup_n hb]; exact h2 b hb) (fun j hj => ?_)
      by_cases ej : j = k
      · rw [ej]; simp [vp_updL]
      · simp only [vp_updL, if_neg ej]; exact h3 j (by omega)

  refine xn_iconst (q := 1) 0 dJ7_fill_d0a16_0 rfl (by decide) ?_
  refine x_istore_n (q := 2) (ls' := [(0, _), (1, _), (3, _)]) [1, 2, 0] dJ7_fill_d0a16_1 rfl (by decide) rfl ?_
  refine x_aload_n (q := 3) dJ7_fill_d0a16_2 rfl rfl ?_
  refine x_alen (q := 4) (nI n) 1 dJ7_fill_d0a16_3 rfl hM rfl rfl ?_
  refine x_istore (q := 6) (ls' := [(0, _), (1, _), (3, _), (4, _)]) [1, 2, 3, 0] dJ7_fill_d0a16_4 rfl (by decide) rfl ?_
  exact loop n 0 M f (by omega) hM (fun _ _ => rfl) (fun j hj => absurd hj (Nat.not_lt_zero j))

set_option maxRecDepth 100000 in
set_option maxHeartbeats 4000000 in
theorem j_rangeCheck (G : xG) (l : Launch) (d : Nat) (M : xM) (N S : Nat) (n a b : Nat) (ha : a ≤ b) (hb : b ≤ n) (hn : n < 2 ^ 31) : xC G l YJ7_rangeCheck_23922 d [.int (nI n), .int (nI a), .int (nI b)] M N S (fun r M' N' S' => r = none ∧ M' = M ∧ N' = N ∧ S' = S) := by
  refine xC.of (ls := [(0, .int (nI n)), (1, .int (nI a)), (2, .int (nI b))]) (by decide) (Nat.le_of_ble_eq_true rfl) rfl ?_

  refine x_iload_n (q := 1) dJ7_rangeCheck_23922_0 rfl rfl ?_
  refine x_iload_n (q := 2) dJ7_rangeCheck_23922_1 rfl rfl ?_
  refine xn_icmp_le (q := 5) 46 dJ7_rangeCheck_23922_2 (by decide) rfl (by omega) (by omega) (fun hc2 => ?_) (fun hc2 => absurd hc2 (by omega))
  refine x_iload_n (q := 47) dJ7_rangeCheck_23922_46 rfl rfl ?_
  refine xn_if_ge (q := 50) 59 dJ7_rangeCheck_23922_47 (by decide) rfl (by omega) (fun hc47 => ?_) (fun hc47 => absurd hc47 (by omega))
  refine x_iload_n (q := 60) dJ7_rangeCheck_23922_59 rfl rfl ?_
  refine x_iload_n (q := 61) dJ7_rangeCheck_23922_60 rfl rfl ?_
  refine xn_icmp_le (q := 64) 73 dJ7_rangeCheck_23922_61 (by decide) rfl (by omega) (by omega) (fun hc61 => ?_) (fun hc61 => absurd hc61 (by omega))
  exact x_vret rfl dJ7_rangeCheck_23922_73 ⟨rfl, rfl, rfl, rfl⟩

set_option maxRecDepth 100000 in
set_option maxHeartbeats 4000000 in
theorem j_fillI (G : xG) (l : Launch) (d : Nat) (M : xM) (N S : Nat) (a n p e : Nat) (f : Nat → Int32) (v : Int32) (hpe : p ≤ e) (hen : e ≤ n) (hn : n < 2 ^ 31) (hM : M a = some (.inl (.int, n, .inl f))) : xC G l YJ7_fill_fda19 (d + 1) [.ref a, .int (nI p), .int (nI e), .int v] M N S (fun r M' N' S' => r = none ∧ N' = N ∧ S' = S ∧ ∃ f' : Nat → Int32, (∀ j, p ≤ j → j < e → f' j = v) ∧ (∀ j, (j < p ∨ e ≤ j) → f' j = f j) ∧ M' = xup M a (.inl (.int, n, .inl f'))) := by
  refine xC.of (ls := [(0, .ref a), (1, .int (nI p)), (2, .int (nI e)), (3, .int v)]) (by decide) (Nat.le_of_ble_eq_true rfl) rfl ?_
  have loop : ∀ (u k : Nat) (M1 : xM) (f1 : Nat → Int32), k + u = e → p ≤ k → M1 a = some (.inl (.int, n, .inl f1)) → (∀ b, b ≠ a → M1 b = M b) → (∀ j, p ≤ j → j < k → f1 j = v) → (∀ j, (j < p ∨ k ≤ j) → f1 j = f j) → xX G l YJ7_fill_fda19 (d + 1) (fun r M' N' S' => r = none ∧ N' = N ∧ S' = S ∧ ∃ f' : Nat → Int32, (∀ j, p ≤ j → j < e → f' j = v) ∧ (∀ j, (j < p ∨ e ≤ j) → f' j = f j) ∧ M' = xup M a (.inl (.int, n, .inl f'))) 10 [(0, .ref a), (1, .int (nI p)), (2, .int (nI e)), (3, .int v), (4, .int (nI k))] [] M1 N S := by
    intro u
    induction u with
    | zero =>
      intro k M1 f1 hk hpk h1 h2 h3 h4

      refine x_iload (q := 12) dJ7_fill_fda19_10 rfl rfl ?_
      refine x_iload_n (q := 13) dJ7_fill_fda19_12 rfl rfl ?_
      refine xn_icmp_ge (q := 16) 27 dJ7_fill_fda19_13 (by decide) rfl (by omega) (by omega) (fun hc13 => ?_) (fun hc13 => absurd hc13 (by omega))
      refine x_vret rfl dJ7_fill_fda19_27 ⟨rfl, rfl, rfl, f1, fun j hj hj2 => h3 j hj (by omega), fun j hj => h4 j (by omega), funext fun b => ?_⟩
      by_cases hb : b = a
      · rw [hb, xup_s, h1]
      · rw [xup_n hb, h2 b hb]

    | succ u ih =>
      intro k M1 f1 hk hpk h1 h2 h3 h4

      refine x_iload (q := 12) dJ7_fill_fda19_10 rfl rfl ?_
      refine x_iload_n (q := 13) dJ7_fill_fda19_12 rfl rfl ?_
      refine xn_icmp_ge (q := 16) 27 dJ7_fill_fda19_13 (by decide) rfl (by omega) (by omega) (fun hc13 => absurd hc13 (by omega)) (fun hc13 => ?_)
      refine x_aload_n (q := 17) dJ7_fill_fda19_16 rfl rfl ?_
      refine x_iload (q := 19) dJ7_fill_fda19_17 rfl rfl ?_
      refine x_iload_n (q := 20) dJ7_fill_fda19_19 rfl rfl ?_
      refine x_iast (q := 21) dJ7_fill_fda19_20 rfl h1 (vp_in_nI (by omega) hn) ?_
      rw [nI_clamp (by omega)]
      refine xn_iinc (q := 24) (ls' := [(0, _), (1, _), (2, _), (3, _), (4, _)]) [1, 2, 3, 4, 0] 1 dJ7_fill_fda19_21 rfl rfl (by decide) (by decide) rfl ?_
      refine x_goto 10 dJ7_fill_fda19_24 (by decide) ?_
      refine ih (k + 1) _ _ (by omega) (by omega) (xup_s _ _ _) (fun b hb => by rw [xup_n hb]; exact h2 b hb) (fun j hj hj2 => ?_) (fun j hj => ?_)
      · by_cases ej : j = k
        · rw [ej]; simp [upd]
        · simp only [upd, if_neg ej]; exact h3 j hj (by omega)
      · have ej : j ≠ k := by omega
        simp only [upd, if_neg ej]; exact h4 j (by omega)

  refine x_aload_n (q := 1) dJ7_fill_fda19_0 rfl rfl ?_
  refine x_alen (q := 2) (nI n) 0 dJ7_fill_fda19_1 rfl hM rfl rfl ?_
  refine x_iload_n (q := 3) dJ7_fill_fda19_2 rfl rfl ?_
  refine x_iload_n (q := 4) dJ7_fill_fda19_3 rfl rfl ?_
  refine x_callS (q := 7) (As := [_, _, _]) imJ7_rangeCheck_23922 isJ7_rangeCheck_23922 mwJ7_13 dJ7_fill_fda19_4 rfl rfl rfl (Nat.le_of_ble_eq_true rfl) ?_
  refine (j_rangeCheck G l d M N S n p e hpe hen hn).mono (fun r9 M9 N9 S9 hp => ?_)
  obtain ⟨rfl, q1, q2, q3⟩ := hp
  rw [q1, q2, q3]
  show xX G l _ _ _ _ _ _ M N S
  refine x_iload_n (q := 8) dJ7_fill_fda19_7 rfl rfl ?_
  refine x_istore (q := 10) (ls' := [(0, _), (1, _), (2, _), (3, _), (4, _)]) [1, 2, 3, 4, 0] dJ7_fill_fda19_8 rfl (by decide) rfl ?_
  exact loop (e - p) p M f (by omega) (Nat.le_refl _) hM (fun _ _ => rfl) (fun j hj hj2 => absurd hj2 (by omega)) (fun _ _ => rfl)

set_option maxRecDepth 100000 in
set_option maxHeartbeats 4000000 in
theorem j_copyOf (G : xG) (l : Launch) (d : Nat) (M : xM) (N S : Nat) (a n m : Nat) (f : Nat → Int32) (hnm : n < m) (hm : m < 134217728) (hM : M a = some (.inl (.int, n, .inl f))) (hN : N + 1 ≤ G.2.2.2.2.1) (hS : S + m ≤ G.2.2.2.2.2) : xC G l YJ7_copyOf_59c91 (d + 1) [.ref a, .int (nI m)] M N S (fun r M' N' S' => r = some (.ref N) ∧ N' = N + 1 ∧ S' = S + m ∧ M N = none ∧ ∃ f' : Nat → Int32, (∀ j, j < n → f' j = f j) ∧ M' = xup M N (.inl (.int, m, .inl f'))) := by
  refine xC.of (ls := [(0, .ref a), (1, .int (nI m))]) (by decide) (Nat.le_of_ble_eq_true rfl) rfl ?_
  refine x_iload_n (q := 1) dJ7_copyOf_59c91_0 rfl rfl ?_
  refine x_aload_n (q := 2) dJ7_copyOf_59c91_1 rfl rfl ?_
  refine x_alen (q := 3) (nI n) 0 dJ7_copyOf_59c91_2 rfl hM rfl rfl ?_
  refine xn_icmp_ne (q := 6) 14 dJ7_copyOf_59c91_3 (by decide) rfl (by omega) (by omega) (fun hc3 => ?_) (fun hc3 => absurd hc3 (by omega))
  refine x_iload_n (q := 15) dJ7_copyOf_59c91_14 rfl rfl ?_
  have ng : ¬ nI m < 0 := fun h => by
    have := Int32.lt_iff_toInt_lt.mp h
    rw [show (nI m).toInt = (m : Int) from Int32.toInt_ofNat_of_lt (by omega)] at this
    have h0 : (0 : Int32).toInt = 0 := rfl
    omega
  refine x_newa (q := 17) (at0 := .int) (ty := .int) (n := m) (a0 := (m, .inl (fun _ => 0))) 0 rfl rfl (fun C h => by cases h) ac_int (fun cA => rfl) ng (nI_clamp (by omega)) (by show m * 4 ≤ 536870912; omega) dJ7_copyOf_59c91_15 rfl hN hS (fun hfr => ?_)
  have hne : a ≠ N := fun e => by rw [e, hfr] at hM; cases hM
  refine x_astore_n (q := 18) (ls' := [(0, _), (1, _), (2, _)]) [1, 2, 0] dJ7_copyOf_59c91_17 rfl (by decide) rfl ?_
  refine x_aload_n (q := 19) dJ7_copyOf_59c91_18 rfl rfl ?_
  refine xn_iconst (q := 20) 0 dJ7_copyOf_59c91_19 rfl (by decide) ?_
  refine x_aload_n (q := 21) dJ7_copyOf_59c91_20 rfl rfl ?_
  refine xn_iconst (q := 22) 0 dJ7_copyOf_59c91_21 rfl (by decide) ?_
  refine x_aload_n (q := 23) dJ7_copyOf_59c91_22 rfl rfl ?_
  refine x_alen (q := 24) (nI n) 0 dJ7_copyOf_59c91_23 rfl (by rw [xup_n hne]; exact hM) rfl rfl ?_
  refine x_iload_n (q := 25) dJ7_copyOf_59c91_24 rfl rfl ?_
  refine x_callS (q := 28) (As := [_, _]) imJ9_min_7cf53 isJ9_min_7cf53 mwJ7_304 dJ7_copyOf_59c91_25 rfl rfl rfl (Nat.le_of_ble_eq_true rfl) ?_
  refine (j_min G l d _ _ _ n m (by omega) (by omega)).mono (fun r9 M9 N9 S9 hp => ?_)
  obtain ⟨rfl, rfl, rfl, rfl⟩ := hp
  rw [show min n m = n by omega]
  refine x_copyi (q := 31) (f := f) (g := fun _ => 0) (n0 := n) (n1 := m) (sp := 0) (dp := 0) 0 rfl rfl mwJ7_150 ac1 ac2 ac3 dJ7_copyOf_59c91_28 rfl (by rw [xup_n hne]; exact hM) (xup_s _ _ _) (by omega) (by omega) (by omega) (by omega) (fun i hi => rfl) (Nat.le_of_ble_eq_true rfl) ?_
  refine x_aload_n (q := 32) dJ7_copyOf_59c91_31 rfl rfl ?_
  refine x_aret rfl (.inr ⟨_, rfl⟩) dJ7_copyOf_59c91_32 ⟨rfl, rfl, rfl, hfr, va_cpy f (fun _ => 0) 0 0 n, fun j hj => ?_, funext fun b => ?_⟩
  · unfold va_cpy
    rw [if_pos (by omega)]
    congr 1
    omega
  · by_cases hb : b = N
    · rw [hb, xup_s, xup_s]
    · rw [xup_n hb, xup_n hb, xup_n hb]

end XW
