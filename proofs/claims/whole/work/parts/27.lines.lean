section XK
section
variable {G : xG} {l : Launch} {Y : xY} {d : Nat} {Q : xPost} {pc q : Nat} {ls : List (Nat × Value)} {st : List Value} {M M0 : xM} {N S : Nat}
theorem iL_div {a b : Int} (h1 : -9223372036854775808 < a) (h2 : a < 9223372036854775808) (h3 : 0 < b) (h4 : b < 9223372036854775808) : iL a / iL b = iL (a.tdiv b) := by
  apply Int64.toInt_inj.mp
  have hq : -9223372036854775808 < a.tdiv b ∧ a.tdiv b < 9223372036854775808 := by
    have h5 : (a.tdiv b).natAbs ≤ a.natAbs := by rw [Int.natAbs_tdiv]; exact Nat.div_le_self _ _
    omega
  rw [Int64.toInt_div, iL_t (by omega) h2, iL_t (by omega) h4, iL_t (by omega) hq.2, Int.bmod_eq_of_le (by omega) (by omega)]
theorem xi_ldiv {x y : Int64} {a b : Int} (hd : decode Y.2.1 pc = .ok (.ldiv, 1)) (hq : pc + 1 = q) (hx : x = iL a) (hy : y = iL b) (h1 : -9223372036854775808 < a) (h2 : a < 9223372036854775808) (h3 : 0 < b) (h4 : b < 9223372036854775808) (h5 : True) (k : xX G l Y d Q q ls (.long (iL (a.tdiv b)) :: st) M N S) : xX G l Y d Q pc ls (.long y :: .long x :: st) M N S := by
  subst hx; subst hy
  refine x_ldiv hd hq (fun e => ?_) (by rw [iL_div h1 h2 h3 h4]; exact k)
  have := congrArg Int64.toInt e
  rw [iL_t (by omega) h4] at this
  have h0 : (0 : Int64).toInt = 0 := rfl
  omega
end
set_option maxRecDepth 100000 in
set_option maxHeartbeats 4000000 in
theorem c_common_loop (G : xG) (l : Launch) (M : xM) (N S d : Nat) (a b : Int64) (g : Nat) : ∀ (t x y : Nat), y < t → Nat.gcd x y = g → x < 9223372036854775808 → y < 9223372036854775808 → xX G l YX9_common d (fun r M' N' S' => r = some (.long (lN g)) ∧ M' = M ∧ N' = N ∧ S' = S) 28 [(0, .long a), (2, .long b), (4, .long (lN x)), (6, .long (lN y))] [] M N S := by
  intro t
  induction t with
  | zero => intro x y h; exact absurd h (Nat.not_lt_zero _)
  | succ t ih =>
    intro x y hy hg hx9 hy9
    refine x_lload (q := 30) dX9_common_28 rfl rfl ?_
    refine xn_lconst (q := 31) 0 dX9_common_30 rfl (by decide) ?_
    refine xn_lcmp_eq (q1 := 32) (q := 35) 53 dX9_common_31 rfl dX9_common_32 (by decide) rfl (by omega) (by omega) (fun hc31 => ?_) (fun hc31 => ?_)
    · refine x_lload (q := 55) dX9_common_53 rfl rfl ?_
      exact x_lret rfl dX9_common_55 ⟨by rw [hc31, Nat.gcd_zero_right] at hg; rw [hg], rfl, rfl, rfl⟩
    · refine x_lload (q := 37) dX9_common_35 rfl rfl ?_
      refine x_lload (q := 39) dX9_common_37 rfl rfl ?_
      refine xn_lrem (q := 40) dX9_common_39 rfl (by omega) (Nat.pos_of_ne_zero hc31) (by omega) ?_
      refine x_lstore (q := 42) (ls' := [(0, _), (2, _), (4, _), (6, _), (8, _)]) [1, 2, 3, 4, 0] dX9_common_40 rfl (by decide) rfl ?_
      refine x_lload (q := 44) dX9_common_42 rfl rfl ?_
      refine x_lstore (q := 46) (ls' := [(0, _), (2, _), (4, _), (6, _), (8, _)]) [1, 2, 0, 3, 4] dX9_common_44 rfl (by decide) rfl ?_
      refine x_lload (q := 48) dX9_common_46 rfl rfl ?_
      refine x_lstore (q := 50) (ls' := [(0, _), (2, _), (4, _), (6, _), (8, _)]) [1, 2, 3, 0, 4] dX9_common_48 rfl (by decide) rfl ?_
      refine x_goto 28 dX9_common_50 (by decide) ?_
      refine x_ls (ls' := [(0, _), (2, _), (4, _), (6, _)]) [0, 1, 2, 3] rfl ?_
      have hy0 : 0 < y := Nat.pos_of_ne_zero hc31
      have hml := Nat.mod_lt x hy0
      exact ih y (x % y) (by omega) (by rw [← hg, Nat.gcd_comm y, ← Nat.gcd_rec, Nat.gcd_comm]) hy9 (by omega)
set_option maxRecDepth 100000 in
set_option maxHeartbeats 4000000 in
theorem c_common (G : xG) (l : Launch) (M : xM) (N S d : Nat) (a b : Int64) (x y : Int) (ha : a.toInt = x) (hb : b.toInt = y) (hx : -9223372036854775808 < x) (hy : -9223372036854775808 < y) : xC G l YX9_common d [.long a, .long b] M N S (fun r M' N' S' => r = some (.long (lN (Nat.gcd x.natAbs y.natAbs))) ∧ M' = M ∧ N' = N ∧ S' = S) := by
  have hx2 : x < 9223372036854775808 := by rw [← ha]; exact Int64.toInt_lt a
  have hy2 : y < 9223372036854775808 := by rw [← hb]; exact Int64.toInt_lt b
  have hga : 0 ≤ a ↔ 0 ≤ x := by rw [Int64.le_iff_toInt_le, ha]; rfl
  have hgb : 0 ≤ b ↔ 0 ≤ y := by rw [Int64.le_iff_toInt_le, hb]; rfl
  refine xC.of (ls := [(0, .long a), (2, .long b)]) (by decide) (Nat.le_of_ble_eq_true rfl) rfl ?_
  refine x_lload_n (q := 1) dX9_common_0 rfl rfl ?_
  refine x_lconst (q := 2) 0 dX9_common_1 rfl (by decide) ?_
  refine x_lcmp_ge (q1 := 3) (q := 6) 11 dX9_common_2 rfl dX9_common_3 (by decide) rfl (fun hc2 => ?_) (fun hc2 => ?_)
  · refine x_lload_n (q := 12) dX9_common_11 rfl rfl ?_
    first | refine x_topl (lN_of_toInt ha (hga.mp hc2)) ?_ | refine x_topl (lN_of_neg ha (Int.not_le.mp (fun q => hc2 (hga.mpr q))) hx) ?_
    refine x_lstore (q := 14) (ls' := [(0, _), (2, _), (4, _)]) [1, 2, 0] dX9_common_12 rfl (by decide) rfl ?_
    refine x_lload_n (q := 15) dX9_common_14 rfl rfl ?_
    refine x_lconst (q := 16) 0 dX9_common_15 rfl (by decide) ?_
    refine x_lcmp_ge (q1 := 17) (q := 20) 25 dX9_common_16 rfl dX9_common_17 (by decide) rfl (fun hc16 => ?_) (fun hc16 => ?_)
    · refine x_lload_n (q := 26) dX9_common_25 rfl rfl ?_
      first | refine x_topl (lN_of_toInt hb (hgb.mp hc16)) ?_ | refine x_topl (lN_of_neg hb (Int.not_le.mp (fun q => hc16 (hgb.mpr q))) hy) ?_
      refine x_lstore (q := 28) (ls' := [(0, _), (2, _), (4, _), (6, _)]) [1, 2, 3, 0] dX9_common_26 rfl (by decide) rfl ?_
      exact c_common_loop G l M N S d a b _ (y.natAbs + 1) x.natAbs y.natAbs (Nat.lt_succ_self _) rfl (by omega) (by omega)
    · refine x_lload_n (q := 21) dX9_common_20 rfl rfl ?_
      refine x_lneg (q := 22) dX9_common_21 rfl ?_
      refine x_goto 26 dX9_common_22 (by decide) ?_
      first | refine x_topl (lN_of_toInt hb (hgb.mp hc16)) ?_ | refine x_topl (lN_of_neg hb (Int.not_le.mp (fun q => hc16 (hgb.mpr q))) hy) ?_
      refine x_lstore (q := 28) (ls' := [(0, _), (2, _), (4, _), (6, _)]) [1, 2, 3, 0] dX9_common_26 rfl (by decide) rfl ?_
      exact c_common_loop G l M N S d a b _ (y.natAbs + 1) x.natAbs y.natAbs (Nat.lt_succ_self _) rfl (by omega) (by omega)
  · refine x_lload_n (q := 7) dX9_common_6 rfl rfl ?_
    refine x_lneg (q := 8) dX9_common_7 rfl ?_
    refine x_goto 12 dX9_common_8 (by decide) ?_
    first | refine x_topl (lN_of_toInt ha (hga.mp hc2)) ?_ | refine x_topl (lN_of_neg ha (Int.not_le.mp (fun q => hc2 (hga.mpr q))) hx) ?_
    refine x_lstore (q := 14) (ls' := [(0, _), (2, _), (4, _)]) [1, 2, 0] dX9_common_12 rfl (by decide) rfl ?_
    refine x_lload_n (q := 15) dX9_common_14 rfl rfl ?_
    refine x_lconst (q := 16) 0 dX9_common_15 rfl (by decide) ?_
    refine x_lcmp_ge (q1 := 17) (q := 20) 25 dX9_common_16 rfl dX9_common_17 (by decide) rfl (fun hc16 => ?_) (fun hc16 => ?_)
    · refine x_lload_n (q := 26) dX9_common_25 rfl rfl ?_
      first | refine x_topl (lN_of_toInt hb (hgb.mp hc16)) ?_ | refine x_topl (lN_of_neg hb (Int.not_le.mp (fun q => hc16 (hgb.mpr q))) hy) ?_
      refine x_lstore (q := 28) (ls' := [(0, _), (2, _), (4, _), (6, _)]) [1, 2, 3, 0] dX9_common_26 rfl (by decide) rfl ?_
      exact c_common_loop G l M N S d a b _ (y.natAbs + 1) x.natAbs y.natAbs (Nat.lt_succ_self _) rfl (by omega) (by omega)
    · refine x_lload_n (q := 21) dX9_common_20 rfl rfl ?_
      refine x_lneg (q := 22) dX9_common_21 rfl ?_
      refine x_goto 26 dX9_common_22 (by decide) ?_
      first | refine x_topl (lN_of_toInt hb (hgb.mp hc16)) ?_ | refine x_topl (lN_of_neg hb (Int.not_le.mp (fun q => hc16 (hgb.mpr q))) hy) ?_
      refine x_lstore (q := 28) (ls' := [(0, _), (2, _), (4, _), (6, _)]) [1, 2, 3, 0] dX9_common_26 rfl (by decide) rfl ?_
      exact c_common_loop G l M N S d a b _ (y.natAbs + 1) x.natAbs y.natAbs (Nat.lt_succ_self _) rfl (by omega) (by omega)
def lineV (a : Nat) (x : Int) (b : Nat) (y : Int) (c : Nat) (z : Int) (j : Nat) : Int := (if j = a then x else 0) + (if j = b then y else 0) + (if j = c then z else 0)
def onlyL (σ σ' : mS) : Prop := (∀ k, k ≠ 25 → σ'.1 k = σ.1 k) ∧ σ'.2.1 = σ.2.1 ∧ ∀ k, k ≠ 24 → σ'.2.2 k = σ.2.2 k
theorem onlyL.rfl' {σ : mS} : onlyL σ σ := ⟨fun _ _ => rfl, rfl, fun _ _ => rfl⟩
theorem onlyL.trans {σ σ' σ'' : mS} (h : onlyL σ σ') (h2 : onlyL σ' σ'') : onlyL σ σ'' := ⟨fun k hk => (h2.1 k hk).trans (h.1 k hk), h2.2.1.trans h.2.1, fun k hk => (h2.2.2 k hk).trans (h.2.2 k hk)⟩
theorem onlyL.cf {σ σ' : mS} {c : mCf} (h : onlyL σ σ') (hc : Cf σ c) : Cf σ' c := by
  unfold Cf at *
  rw [h.1 3 (by decide), h.2.1]
  exact hc
/-- n lines are told: R -/
def Lns (σ : mS) (R : Nat → Nat → Int) (n : Nat) : Prop := σ.1 25 = nI n ∧ ∀ i j, i < n → j < 6 → σ.2.2 24 (6 * i + j) = iL (R i j)
def addL (R : Nat → Nat → Int) (n : Nat) (f : Nat → Int) : Nat → Nat → Int := fun i j => if i = n then f j else R i j
set_option maxRecDepth 100000 in
set_option maxHeartbeats 4000000 in
theorem c_line_loop (G : xG) (l : Launch) (o : Nat) (as : Nat → Nat) (M0 : xM) (N S : Nat) (d : Nat) (σ : mS) (a b c : Nat) (x y z : Int64) (n : Nat) (hn : n < 20) (hc : σ.1 25 = nI n) (Q : xPost)
    (hx : ∀ σ' M, onlyL σ σ' → (∀ j, j < 6 * n → σ'.2.2 24 j = σ.2.2 24 j) → (∀ j, j < 6 → σ'.2.2 24 (6 * n + j) = iL 0) → σ'.1 = σ.1 → mAt o as σ' M0 M → xX G l YX9_line d Q 32 [(0, .ref o), (1, .int (nI a)), (2, .long x), (4, .int (nI b)), (5, .long y), (7, .int (nI c)), (8, .long z), (10, .int (nI 6))] [] M N S) :
    ∀ (u i : Nat), i + u = 6 → ∀ σ' M, onlyL σ σ' → (∀ j, j < 6 * n → σ'.2.2 24 j = σ.2.2 24 j) → (∀ j, j < i → σ'.2.2 24 (6 * n + j) = iL 0) → σ'.1 = σ.1 → mAt o as σ' M0 M → xX G l YX9_line d Q 3 [(0, .ref o), (1, .int (nI a)), (2, .long x), (4, .int (nI b)), (5, .long y), (7, .int (nI c)), (8, .long z), (10, .int (nI i))] [] M N S := by
  intro u
  induction u with
  | zero =>
    intro i hi σ' M ho hw hj h1 hM
    obtain rfl : i = 6 := by omega
    refine x_iload (q := 5) dX9_line_3 rfl rfl ?_
    refine xn_bipush (q := 7) 6 dX9_line_5 rfl (by decide) ?_
    refine xn_icmp_ge (q := 10) 32 dX9_line_7 (by decide) rfl (by omega) (by omega) (fun hc7 => ?_) (fun hc7 => absurd hc7 (by omega))
    exact hx σ' M ho hw hj h1 hM
  | succ u ih =>
    intro i hi σ' M ho hw hj h1 hM
    have hc' : σ'.1 25 = nI n := by rw [h1]; exact hc
    refine x_iload (q := 5) dX9_line_3 rfl rfl ?_
    refine xn_bipush (q := 7) 6 dX9_line_5 rfl (by decide) ?_
    refine xn_icmp_ge (q := 10) 32 dX9_line_7 (by decide) rfl (by omega) (by omega) (fun hc7 => absurd hc7 (by omega)) (fun hc7 => ?_)
    refine x_aload_n (q := 11) dX9_line_10 rfl rfl ?_
    refine m_get (q := 14) hM 24 fwX9_63 (by decide) dX9_line_11 rfl rfl ?_
    refine xn_bipush (q := 16) 6 dX9_line_14 rfl (by decide) ?_
    refine x_aload_n (q := 17) dX9_line_16 rfl rfl ?_
    refine m_get (q := 20) hM 25 fwX9_224 (by decide) dX9_line_17 rfl rfl ?_
    rw [hc']
    refine xn_imul (q := 21) dX9_line_20 rfl ?_
    refine x_iload (q := 23) dX9_line_21 rfl rfl ?_
    refine xn_iadd (q := 24) dX9_line_23 rfl ?_
    refine xn_lconst (q := 25) 0 dX9_line_24 rfl (by decide) ?_
    refine m_lastG (q := 26) hM (n := 120) (by decide) dX9_line_25 rfl (by omega) (fun M σ25 a25 b25 c25 e25 f25 hM => ?_)
    refine xn_iinc (q := 29) (ls' := [(0, _), (1, _), (2, _), (4, _), (5, _), (7, _), (8, _), (10, _)]) [1, 2, 3, 4, 5, 6, 7, 0] 1 dX9_line_26 rfl rfl (by decide) (by decide) rfl ?_
    refine x_goto 3 dX9_line_29 (by decide) ?_
    refine ih (i + 1) (by omega) σ25 M (ho.trans ⟨fun k _ => by rw [a25], b25, c25⟩) (fun j hj0 => (f25 j (by omega)).trans (hw j hj0)) (fun j hjj => ?_) (a25.trans h1) hM
    by_cases e : j = i
    · rw [e, e25]; rfl
    · rw [f25 _ (by omega)]; exact hj j (by omega)
set_option maxRecDepth 100000 in
set_option maxHeartbeats 4000000 in
theorem c_line (G : xG) (l : Launch) (o : Nat) (as : Nat → Nat) (M0 : xM) (N S : Nat) (d : Nat) (σ : mS) (a b c : Nat) (x y z : Int64) (X Y Z : Int) (hX : x = iL X) (hY : y = iL Y) (hZ : z = iL Z) (ha : a < 6) (hb : b < 6) (hcc : c < 6) (n : Nat) (hn : n < 20) (R : Nat → Nat → Int) (hR : Lns σ R n) : mC G l o as M0 N S YX9_line d [.int (nI a), .long x, .int (nI b), .long y, .int (nI c), .long z] σ (fun r σ' => r = none ∧ onlyL σ σ' ∧ Lns σ' (addL R n (lineV a X b Y c Z)) (n + 1)) := by
  obtain ⟨hc, hl⟩ := hR
  refine mC.of (ls := [(0, .ref o), (1, .int (nI a)), (2, .long x), (4, .int (nI b)), (5, .long y), (7, .int (nI c)), (8, .long z)]) (by decide) (Nat.le_of_ble_eq_true rfl) rfl fun M hM => ?_
  refine xn_iconst (q := 1) 0 dX9_line_0 rfl (by decide) ?_
  refine x_istore (q := 3) (ls' := [(0, _), (1, _), (2, _), (4, _), (5, _), (7, _), (8, _), (10, _)]) [1, 2, 3, 4, 5, 6, 7, 0] dX9_line_1 rfl (by decide) rfl ?_
  refine c_line_loop G l o as M0 N S d σ a b c x y z n hn hc _ (fun σ1 M o1 w1 v1 s1 hM => ?_) 6 0 (Nat.zero_add _) σ M onlyL.rfl' (fun _ _ => rfl) (fun j h => absurd h (Nat.not_lt_zero j)) rfl hM
  subst hX; subst hY; subst hZ
  have c1 : σ1.1 25 = nI n := by rw [s1]; exact hc
  have g1 : σ1.2.2 24 (6 * n + a) = iL 0 := v1 a ha
  refine x_aload_n (q := 33) dX9_line_32 rfl rfl ?_
  refine m_get (q := 36) hM 24 fwX9_63 (by decide) dX9_line_33 rfl rfl ?_
  refine xn_bipush (q := 38) 6 dX9_line_36 rfl (by decide) ?_
  refine x_aload_n (q := 39) dX9_line_38 rfl rfl ?_
  refine m_get (q := 42) hM 25 fwX9_224 (by decide) dX9_line_39 rfl rfl ?_
  rw [c1]
  refine xn_imul (q := 43) dX9_line_42 rfl ?_
  refine x_iload_n (q := 44) dX9_line_43 rfl rfl ?_
  refine xn_iadd (q := 45) dX9_line_44 rfl ?_
  refine x_dup2 (q := 46) dX9_line_45 rfl rfl rfl ?_
  refine m_lald (q := 47) hM (n := 120) (by decide) dX9_line_46 rfl (by omega) ?_
  rw [g1]
  refine x_lload_n (q := 48) dX9_line_47 rfl rfl ?_
  refine xi_ladd (q := 49) dX9_line_48 rfl rfl rfl ?_
  refine m_lastG (q := 50) hM (n := 120) (by decide) dX9_line_49 rfl (by omega) (fun M σ49 a49 b49 c49 e49 f49 hM => ?_)
  have p49 : ∀ j, j < 6 → σ49.2.2 24 (6 * n + j) = iL (0 + (if j = a then X else 0)) := fun j hj => by
    by_cases f : j = a
    · rw [if_pos f, f]; exact e49
    · rw [if_neg f, f49 _ (by omega)]; exact v1 j hj
  refine x_aload_n (q := 51) dX9_line_50 rfl rfl ?_
  refine m_get (q := 54) hM 24 fwX9_63 (by decide) dX9_line_51 rfl rfl ?_
  refine xn_bipush (q := 56) 6 dX9_line_54 rfl (by decide) ?_
  refine x_aload_n (q := 57) dX9_line_56 rfl rfl ?_
  refine m_get (q := 60) hM 25 fwX9_224 (by decide) dX9_line_57 rfl rfl ?_
  rw [a49, c1]
  refine xn_imul (q := 61) dX9_line_60 rfl ?_
  refine x_iload (q := 63) dX9_line_61 rfl rfl ?_
  refine xn_iadd (q := 64) dX9_line_63 rfl ?_
  refine x_dup2 (q := 65) dX9_line_64 rfl rfl rfl ?_
  refine m_lald (q := 66) hM (n := 120) (by decide) dX9_line_65 rfl (by omega) ?_
  rw [p49 b hb]
  refine x_lload (q := 68) dX9_line_66 rfl rfl ?_
  refine xi_ladd (q := 69) dX9_line_68 rfl rfl rfl ?_
  refine m_lastG (q := 70) hM (n := 120) (by decide) dX9_line_69 rfl (by omega) (fun M σ69 a69 b69 c69 e69 f69 hM => ?_)
  have p69 : ∀ j, j < 6 → σ69.2.2 24 (6 * n + j) = iL (0 + (if j = a then X else 0) + (if j = b then Y else 0)) := fun j hj => by
    by_cases f : j = b
    · rw [if_pos f, f]; exact e69
    · rw [if_neg f, f69 _ (by omega), Int.add_zero]; exact p49 j hj
  refine x_aload_n (q := 71) dX9_line_70 rfl rfl ?_
  refine m_get (q := 74) hM 24 fwX9_63 (by decide) dX9_line_71 rfl rfl ?_
  refine xn_bipush (q := 76) 6 dX9_line_74 rfl (by decide) ?_
  refine x_aload_n (q := 77) dX9_line_76 rfl rfl ?_
  refine m_get (q := 80) hM 25 fwX9_224 (by decide) dX9_line_77 rfl rfl ?_
  rw [a69, a49, c1]
  refine xn_imul (q := 81) dX9_line_80 rfl ?_
  refine x_iload (q := 83) dX9_line_81 rfl rfl ?_
  refine xn_iadd (q := 84) dX9_line_83 rfl ?_
  refine x_dup2 (q := 85) dX9_line_84 rfl rfl rfl ?_
  refine m_lald (q := 86) hM (n := 120) (by decide) dX9_line_85 rfl (by omega) ?_
  rw [p69 c hcc]
  refine x_lload (q := 88) dX9_line_86 rfl rfl ?_
  refine xi_ladd (q := 89) dX9_line_88 rfl rfl rfl ?_
  refine m_lastG (q := 90) hM (n := 120) (by decide) dX9_line_89 rfl (by omega) (fun M σ89 a89 b89 c89 e89 f89 hM => ?_)
  refine x_aload_n (q := 91) dX9_line_90 rfl rfl ?_
  refine x_dup (q := 92) dX9_line_91 rfl rfl ?_
  refine m_get (q := 95) hM 25 fwX9_224 (by decide) dX9_line_92 rfl rfl ?_
  rw [a89, a69, a49, c1]
  refine xn_iconst (q := 96) 1 dX9_line_95 rfl (by decide) ?_
  refine xn_iadd (q := 97) dX9_line_96 rfl ?_
  refine m_putG (q := 100) hM 25 fwX9_224 (by decide) rfl rfl rfl dX9_line_97 rfl rfl rfl (fun M σ97 a97 e97 b97 hM => ?_)
  refine x_vret rfl dX9_line_100 (m_ret hM ⟨rfl, o1.trans ⟨fun k hk => by rw [a97 k hk, a89, a69, a49], by rw [b97, b89, b69, b49], fun k hk => by rw [b97, c89 k hk, c69 k hk, c49 k hk]⟩, e97, fun i j hi hj => ?_⟩)
  rw [b97]
  unfold addL
  by_cases e : i = n
  · rw [if_pos e, e]
    unfold lineV
    have q3 : σ89.2.2 24 (6 * n + j) = if j = c then iL ((0 + (if c = a then X else 0) + (if c = b then Y else 0)) + Z) else iL (0 + (if j = a then X else 0) + (if j = b then Y else 0)) := by
      by_cases f : j = c
      · rw [if_pos f, f]; exact e89
      · rw [if_neg f, f89 _ (by omega)]; exact p69 j hj
    rw [q3]
    by_cases f : j = c
    · rw [if_pos f, if_pos f, f]; exact congrArg iL (by omega)
    · rw [if_neg f, if_neg f]; exact congrArg iL (by omega)
  · rw [if_neg e, f89 _ (by omega), f69 _ (by omega), f49 _ (by omega), w1 _ (by omega)]; exact hl i j (by omega) hj
end XK
