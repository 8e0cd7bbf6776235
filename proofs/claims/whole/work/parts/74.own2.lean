section XC9
set_option maxRecDepth 100000 in
set_option maxHeartbeats 4000000 in
theorem j_max0 (G : xG) (l : Launch) (d : Nat) (M : xM) (N S : Nat) (b : Int) (h1 : -1000 ≤ b) (h2 : b ≤ 1000) : xC G l YJ9_max_7cf53 d [.int (nI 0), .int (iI b)] M N S (fun r M' N' S' => r = some (.int (nI b.toNat)) ∧ M' = M ∧ N' = N ∧ S' = S) := by
  refine xC.ofP (ls := [(0, .int (nI 0)), (1, .int (iI b))]) (by decide +kernel) (Nat.le_of_ble_eq_true rfl) rfl ?_

  refine x_iload_n (q := 1) dJ9_max_7cf53_0 rfl rfl ?_
  refine x_iload_n (q := 2) dJ9_max_7cf53_1 rfl rfl ?_
  refine xi_icmp_lt (q := 5) 9 dJ9_max_7cf53_2 (by decide) rfl (nI_i _) rfl (by omega) (by omega) (by omega) (by omega) (fun hc2 => ?_) (fun hc2 => ?_)
  · refine x_iload_n (q := 10) dJ9_max_7cf53_9 rfl rfl ?_
    exact x_iret rfl dJ9_max_7cf53_10 ⟨by rw [iI_nat (by omega)], rfl, rfl, rfl⟩
  · refine x_iload_n (q := 6) dJ9_max_7cf53_5 rfl rfl ?_
    refine x_goto 10 dJ9_max_7cf53_6 (by decide) ?_
    exact x_iret rfl dJ9_max_7cf53_10 ⟨by rw [show b.toNat = 0 by omega], rfl, rfl, rfl⟩

/-- a probe's load: beam, place, the right side -/
def Pl (σ : cZ) (c : mCf) (p k q : Nat) : Prop := (σ p).1 9 = nI k ∧ (σ p).1 10 = nI q ∧ ∀ i, i < 10 → (σ (20 + 3 * p)).2.1 i = iL (shP c k q (fun _ => 0) i)
def orP (as : Nat → Bool) (rg : Nat → Int) : Nat → Int
  | 0 => 0
  | i + 1 => orP as rg i + (if as i = true then rg i else 0)

set_option maxRecDepth 100000 in
set_option maxHeartbeats 4000000 in
theorem b_ownReaction (G : xG) (l : Launch) (ad : Nat → Nat) (F : xM) (R : Nat × Nat) (d : Nat) (σ : cZ) (p : Nat) (hp : p = 5 ∨ p = 6) (as : Nat → Bool) (rg : Nat → Int) (ha : ∀ i, i < 4 → (σ (21 + 3 * p)).1 i = bI (as i)) (hr : ∀ i, i < 10 → (σ (20 + 3 * p)).2.1 i = iL (rg i)) : cC G l ad F R YX5_ownReaction d [.ref (ad p)] σ (fun r σ' => r = some (.long (iL (orP as rg 4))) ∧ σ' = σ) := by
  refine cC.of (ls := [(0, .ref (ad p))]) (by decide) (Nat.le_of_ble_eq_true rfl) rfl fun M N S hM => ?_
  have loop : ∀ (u i : Nat) (M : xM) (N S : Nat), i + u = 4 → cA G ad F R σ M N S → xX G l YX5_ownReaction d (cQ G ad F R (fun r σ' => r = some (.long (iL (orP as rg 4))) ∧ σ' = σ)) 4 [(0, .ref (ad p)), (1, .long (iL (orP as rg i))), (3, .int (nI i))] [] M N S := by
    intro u
    induction u with
    | zero =>
      intro i M N S hi hM

      refine x_iload_n (q := 5) dX5_ownReaction_4 rfl rfl ?_
      refine x_aload_n (q := 6) dX5_ownReaction_5 rfl rfl ?_
      refine c_get (q := 9) (k := p) (f := 4) hM (cE_pr _ _ hp) xclX5 fwX5_22 (by decide) dX5_ownReaction_6 rfl rfl ?_
      refine x_alen (q := 10) (nI 4) 2 dX5_ownReaction_9 rfl (hM.arr (k := (21 + 3 * p)) (cE_pa _ _ hp) (by omega)) rfl rfl ?_
      refine xn_icmp_ge (q := 13) 41 dX5_ownReaction_10 (by decide) rfl (by omega) (by omega) (fun hc10 => ?_) (fun hc10 => absurd hc10 (by omega))
      refine x_lload_n (q := 42) dX5_ownReaction_41 rfl rfl ?_
      exact x_lret rfl dX5_ownReaction_42 (c_ret hM ⟨by rw [show i = 4 by omega], rfl⟩)

    | succ u ih =>
      intro i M N S hi hM

      refine x_iload_n (q := 5) dX5_ownReaction_4 rfl rfl ?_
      refine x_aload_n (q := 6) dX5_ownReaction_5 rfl rfl ?_
      refine c_get (q := 9) (k := p) (f := 4) hM (cE_pr _ _ hp) xclX5 fwX5_22 (by decide) dX5_ownReaction_6 rfl rfl ?_
      refine x_alen (q := 10) (nI 4) 2 dX5_ownReaction_9 rfl (hM.arr (k := (21 + 3 * p)) (cE_pa _ _ hp) (by omega)) rfl rfl ?_
      refine xn_icmp_ge (q := 13) 41 dX5_ownReaction_10 (by decide) rfl (by omega) (by omega) (fun hc10 => absurd hc10 (by omega)) (fun hc10 => ?_)
      refine x_lload_n (q := 14) dX5_ownReaction_13 rfl rfl ?_
      refine x_aload_n (q := 15) dX5_ownReaction_14 rfl rfl ?_
      refine c_get (q := 18) (k := p) (f := 4) hM (cE_pr _ _ hp) xclX5 fwX5_22 (by decide) dX5_ownReaction_15 rfl rfl ?_
      refine x_iload_n (q := 19) dX5_ownReaction_18 rfl rfl ?_
      refine c_zald (q := 20) (k := (21 + 3 * p)) (n := 4) hM (cE_pa _ _ hp) (by omega) (by decide) dX5_ownReaction_19 rfl (by omega) ?_
      refine x_topi (y := bI (as i)) (by exact ha i (by omega)) ?_
      refine x_if_eq (q := 23) 32 dX5_ownReaction_20 (by decide) rfl (fun hc20 => ?_) (fun hc20 => ?_)
      · refine xn_lconst (q := 33) 0 dX5_ownReaction_32 rfl (by decide) ?_
        refine xi_ladd (q := 34) dX5_ownReaction_33 rfl rfl (lN_i' _) ?_
        refine x_lstore_n (q := 35) (ls' := [(0, _), (1, _), (3, _)]) [1, 0, 2] dX5_ownReaction_34 rfl (by decide) rfl ?_
        refine xn_iinc (q := 38) (ls' := [(0, _), (1, _), (3, _)]) [1, 2, 0] 1 dX5_ownReaction_35 rfl rfl (by decide) (by decide) rfl ?_
        refine x_goto 4 dX5_ownReaction_38 (by decide) ?_
        have e9 : orP as rg i + ((0 : Nat) : Int) = orP as rg (i + 1) := by show _ = orP as rg i + (if as i = true then rg i else 0); rw [if_neg (fun z => by rw [bI_eq.mp hc20] at z; exact absurd z (by decide))]; rfl
        rw [e9]
        exact ih (i + 1) M N S (by omega) hM
      · refine x_aload_n (q := 24) dX5_ownReaction_23 rfl rfl ?_
        refine c_get (q := 27) (k := p) (f := 3) hM (cE_pr _ _ hp) xclX5 fwX5_17 (by decide) dX5_ownReaction_24 rfl rfl ?_
        refine x_iload_n (q := 28) dX5_ownReaction_27 rfl rfl ?_
        refine c_lald (q := 29) (k := (20 + 3 * p)) (n := 10) hM (cE_pq _ _ hp) (by omega) (by decide) dX5_ownReaction_28 rfl (by omega) ?_
        refine x_topl (y := iL (rg i)) (by exact hr i (by omega)) ?_
        refine x_goto 33 dX5_ownReaction_29 (by decide) ?_
        refine xi_ladd (q := 34) dX5_ownReaction_33 rfl rfl rfl ?_
        refine x_lstore_n (q := 35) (ls' := [(0, _), (1, _), (3, _)]) [1, 0, 2] dX5_ownReaction_34 rfl (by decide) rfl ?_
        refine xn_iinc (q := 38) (ls' := [(0, _), (1, _), (3, _)]) [1, 2, 0] 1 dX5_ownReaction_35 rfl rfl (by decide) (by decide) rfl ?_
        refine x_goto 4 dX5_ownReaction_38 (by decide) ?_
        have e9 : orP as rg i + rg i = orP as rg (i + 1) := by show _ = orP as rg i + (if as i = true then rg i else 0); rw [if_pos (bI_ne.mp hc20)]
        rw [e9]
        exact ih (i + 1) M N S (by omega) hM

  refine xn_lconst (q := 1) 0 dX5_ownReaction_0 rfl (by decide) ?_
  refine x_topl (y := iL 0) rfl ?_
  refine x_lstore_n (q := 2) (ls' := [(0, _), (1, _)]) [1, 0] dX5_ownReaction_1 rfl (by decide) rfl ?_
  refine xn_iconst (q := 3) 0 dX5_ownReaction_2 rfl (by decide) ?_
  refine x_istore_n (q := 4) (ls' := [(0, _), (1, _), (3, _)]) [1, 2, 0] dX5_ownReaction_3 rfl (by decide) rfl ?_
  exact loop 4 0 M N S (by decide) hM

def owM (c : mCf) (k q j : Nat) : Int := ((c.L k : Nat) : Int) * ((((4 - j) * (4 - j) * (4 + 2 * j) * q : Nat) : Int) - ((4 * (j * (4 - j) * (4 - j)) : Nat) : Int) - ((64 * (q - j) : Nat) : Int))
def owV (c : mCf) (k q j : Nat) : Int := ((c.L k * c.L k * c.L k : Nat) : Int) * ((((12 * (j * (4 - j) * (4 - j)) * (q * q) : Nat) : Int) - (((4 - j) * (4 - j) * (4 + 2 * j) * (q * q) * q : Nat) : Int)) + ((64 * (q - j) * (q - j) * (q - j) : Nat) : Int))
def owS (c : mCf) (q j : Nat) : Int := if j = 0 ∨ j = 4 then 0 else ((scP c c.m : Nat) : Int) * (if 0 < q - j then (((4 - j) * (4 - j) * (4 + 2 * j) : Nat) : Int) - ((64 : Nat) : Int) else (((4 - j) * (4 - j) * (4 + 2 * j) : Nat) : Int))
def owP (c : mCf) (w k q i j : Nat) (as : Nat → Bool) : Int := if w = 3 then orP as (shP c i j (fun _ => 0)) 4 else if i ≠ k then 0 else if w = 0 then owM c k q j else if w = 2 then owV c k q j else owS c q j

set_option maxRecDepth 100000 in
set_option maxHeartbeats 4000000 in
theorem b_ownPart (G : xG) (l : Launch) (ad : Nat → Nat) (F : xM) (R : Nat × Nat) (d : Nat) (σ : cZ) (p : Nat) (hp : p = 5 ∨ p = 6) (c : mCf) (hc : Bm σ 1 c) (hok : okL c) (hz : Fz σ c) (w k q i j : Nat) (lf : Nat → Int) (gn wh : Int) (as : Nat → Bool) (hr : okRow c (w, k, q)) (hP : Pb σ p w k q lf gn wh as) (hL : Pl σ c p i j) (hi : i < c.m) (hj : j ≤ 4) : cC G l ad F R YX5_ownPart (d + 1) [.ref (ad p)] σ (fun r σ' => r = some (.long (iL (owP c w k q i j as))) ∧ σ' = σ) := by
  have hr' : (w ≤ 2 ∧ k < c.m ∧ q ≤ 4) ∨ (w = 3 ∧ k ≤ c.m ∧ q = 0) := hr
  have h0 := hc.1
  have hs := scP_le hok h0
  obtain ⟨⟨p6, p7, p8⟩, p11, p12, pl, pa⟩ := hP
  obtain ⟨p9, p10, prg⟩ := hL
  have hrest : 4 - j ≤ 4 := by omega
  have c1 : (4 - j) * (4 - j) ≤ 16 := Nat.mul_le_mul hrest hrest
  refine cC.of (ls := [(0, .ref (ad p))]) (by decide) (Nat.le_of_ble_eq_true rfl) rfl fun M N S hM => ?_

  refine x_aload_n (q := 1) dX5_ownPart_0 rfl rfl ?_
  refine c_get (q := 4) (k := p) (f := 6) hM (cE_pr _ _ hp) xclX5 fwX5_41 (by decide) dX5_ownPart_1 rfl rfl ?_
  refine x_topi (y := nI w) (by exact p6) ?_
  refine xn_iconst (q := 5) 3 dX5_ownPart_4 rfl (by decide) ?_
  refine xn_icmp_ne (q := 8) 13 dX5_ownPart_5 (by decide) rfl (by omega) (by omega) (fun hc5 => ?_) (fun hc5 => ?_)
  · refine x_aload_n (q := 14) dX5_ownPart_13 rfl rfl ?_
    refine c_get (q := 17) (k := p) (f := 9) hM (cE_pr _ _ hp) xclX5 fwX5_79 (by decide) dX5_ownPart_14 rfl rfl ?_
    refine x_topi (y := nI i) (by exact p9) ?_
    refine x_aload_n (q := 18) dX5_ownPart_17 rfl rfl ?_
    refine c_get (q := 21) (k := p) (f := 7) hM (cE_pr _ _ hp) xclX5 fwX5_45 (by decide) dX5_ownPart_18 rfl rfl ?_
    refine x_topi (y := nI k) (by exact p7) ?_
    refine xn_icmp_eq (q := 24) 26 dX5_ownPart_21 (by decide) rfl (by omega) (by omega) (fun hc21 => ?_) (fun hc21 => ?_)
    · refine xn_iconst (q := 27) 4 dX5_ownPart_26 rfl (by decide) ?_
      refine x_aload_n (q := 28) dX5_ownPart_27 rfl rfl ?_
      refine c_get (q := 31) (k := p) (f := 10) hM (cE_pr _ _ hp) xclX5 fwX5_82 (by decide) dX5_ownPart_28 rfl rfl ?_
      refine x_topi (y := nI j) (by exact p10) ?_
      refine xn_isub (q := 32) dX5_ownPart_31 rfl (by omega) ?_
      refine xn_i2l (q := 33) dX5_ownPart_32 rfl (by omega) ?_
      refine x_lstore_n (q := 34) (ls' := [(0, _), (1, _)]) [1, 0] dX5_ownPart_33 rfl (by decide) rfl ?_
      refine x_lload_n (q := 35) dX5_ownPart_34 rfl rfl ?_
      refine x_lload_n (q := 36) dX5_ownPart_35 rfl rfl ?_
      refine xn_lmul (q := 37) dX5_ownPart_36 rfl ?_
      refine xn_iconst (q := 38) 4 dX5_ownPart_37 rfl (by decide) ?_
      refine xn_iconst (q := 39) 2 dX5_ownPart_38 rfl (by decide) ?_
      refine x_aload_n (q := 40) dX5_ownPart_39 rfl rfl ?_
      refine c_get (q := 43) (k := p) (f := 10) hM (cE_pr _ _ hp) xclX5 fwX5_82 (by decide) dX5_ownPart_40 rfl rfl ?_
      refine x_topi (y := nI j) (by exact p10) ?_
      refine xn_imul (q := 44) dX5_ownPart_43 rfl ?_
      refine xn_iadd (q := 45) dX5_ownPart_44 rfl ?_
      refine xn_i2l (q := 46) dX5_ownPart_45 rfl (by omega) ?_
      refine xn_lmul (q := 47) dX5_ownPart_46 rfl ?_
      refine x_lstore_n (q := 48) (ls' := [(0, _), (1, _), (3, _)]) [1, 2, 0] dX5_ownPart_47 rfl (by decide) rfl ?_
      refine x_aload_n (q := 49) dX5_ownPart_48 rfl rfl ?_
      refine c_get (q := 52) (k := p) (f := 10) hM (cE_pr _ _ hp) xclX5 fwX5_82 (by decide) dX5_ownPart_49 rfl rfl ?_
      refine x_topi (y := nI j) (by exact p10) ?_
      refine xn_i2l (q := 53) dX5_ownPart_52 rfl (by omega) ?_
      refine x_lload_n (q := 54) dX5_ownPart_53 rfl rfl ?_
      refine xn_lmul (q := 55) dX5_ownPart_54 rfl ?_
      refine x_lload_n (q := 56) dX5_ownPart_55 rfl rfl ?_
      refine xn_lmul (q := 57) dX5_ownPart_56 rfl ?_
      refine x_lstore (q := 59) (ls' := [(0, _), (1, _), (3, _), (5, _)]) [1, 2, 3, 0] dX5_ownPart_57 rfl (by decide) rfl ?_
      refine xn_iconst (q := 60) 0 dX5_ownPart_59 rfl (by decide) ?_
      refine x_aload_n (q := 61) dX5_ownPart_60 rfl rfl ?_
      refine c_get (q := 64) (k := p) (f := 8) hM (cE_pr _ _ hp) xclX5 fwX5_48 (by decide) dX5_ownPart_61 rfl rfl ?_
      refine x_topi (y := nI q) (by exact p8) ?_
      refine x_aload_n (q := 65) dX5_ownPart_64 rfl rfl ?_
      refine c_get (q := 68) (k := p) (f := 10) hM (cE_pr _ _ hp) xclX5 fwX5_82 (by decide) dX5_ownPart_65 rfl rfl ?_
      refine x_topi (y := nI j) (by exact p10) ?_
      refine xi_isub (q := 69) dX5_ownPart_68 rfl (nI_i _) (nI_i _) ?_
      refine c_callS (q := 72) (As := [_, _]) hM imJ9_max_7cf53 isJ9_max_7cf53 mwX5_157 dX5_ownPart_69 rfl rfl rfl (Nat.le_of_ble_eq_true rfl) ?_
      refine (cC.of_x (fun M N S => j_max0 G l d M N S ((q : Int) - (j : Int)) (by omega) (by omega))).mono (fun x9 σ9' hp9 => ?_)
      obtain ⟨rfl, e9⟩ := hp9
      intro M N S hM
      rw [e9] at hM; clear e9 σ9'
      rw [show ((q : Int) - (j : Int)).toNat = q - j by omega]
      show xX G l _ (d + 1) _ _ _ _ M N S
      refine xn_i2l (q := 73) dX5_ownPart_72 rfl (by omega) ?_
      refine x_lstore (q := 75) (ls' := [(0, _), (1, _), (3, _), (5, _), (7, _)]) [1, 2, 3, 4, 0] dX5_ownPart_73 rfl (by decide) rfl ?_
      refine x_aload_n (q := 76) dX5_ownPart_75 rfl rfl ?_
      refine c_get (q := 79) (k := p) (f := 0) hM (cE_pr _ _ hp) xclX5 fwX5_33 (by decide) dX5_ownPart_76 rfl rfl ?_
      refine c_get (q := 82) (k := 1) (f := 0) hM rfl xclX1 fwX5_123 (by decide) dX5_ownPart_79 rfl rfl ?_
      refine x_aload_n (q := 83) dX5_ownPart_82 rfl rfl ?_
      refine c_get (q := 86) (k := p) (f := 7) hM (cE_pr _ _ hp) xclX5 fwX5_45 (by decide) dX5_ownPart_83 rfl rfl ?_
      refine x_topi (y := nI k) (by exact p7) ?_
      refine c_lald (q := 87) (k := 14) (n := 3) hM rfl (by decide) (by decide) dX5_ownPart_86 rfl (by omega) ?_
      refine x_topl (y := lN (c.L k)) (by exact hc.2.2.1 k (by omega)) ?_
      refine x_lstore (q := 89) (ls' := [(0, _), (1, _), (3, _), (5, _), (7, _), (9, _)]) [1, 2, 3, 4, 5, 0] dX5_ownPart_87 rfl (by decide) rfl ?_
      refine x_aload_n (q := 90) dX5_ownPart_89 rfl rfl ?_
      refine c_get (q := 93) (k := p) (f := 6) hM (cE_pr _ _ hp) xclX5 fwX5_41 (by decide) dX5_ownPart_90 rfl rfl ?_
      refine x_topi (y := nI w) (by exact p6) ?_
      refine xn_if_ne (q := 96) 121 dX5_ownPart_93 (by decide) rfl (by omega) (fun hc93 => ?_) (fun hc93 => ?_)
      · refine x_aload_n (q := 122) dX5_ownPart_121 rfl rfl ?_
        refine c_get (q := 125) (k := p) (f := 6) hM (cE_pr _ _ hp) xclX5 fwX5_41 (by decide) dX5_ownPart_122 rfl rfl ?_
        refine x_topi (y := nI w) (by exact p6) ?_
        refine xn_iconst (q := 126) 2 dX5_ownPart_125 rfl (by decide) ?_
        refine xn_icmp_ne (q := 129) 184 dX5_ownPart_126 (by decide) rfl (by omega) (by omega) (fun hc126 => ?_) (fun hc126 => ?_)
        · refine x_aload_n (q := 185) dX5_ownPart_184 rfl rfl ?_
          refine c_get (q := 188) (k := p) (f := 10) hM (cE_pr _ _ hp) xclX5 fwX5_82 (by decide) dX5_ownPart_185 rfl rfl ?_
          refine x_topi (y := nI j) (by exact p10) ?_
          refine xn_if_eq (q := 191) 199 dX5_ownPart_188 (by decide) rfl (by omega) (fun hc188 => ?_) (fun hc188 => ?_)
          · refine xn_iconst (q := 200) 1 dX5_ownPart_199 rfl (by decide) ?_
            refine x_goto 204 dX5_ownPart_200 (by decide) ?_
            refine x_istore (q := 206) (ls' := [(0, _), (1, _), (3, _), (5, _), (7, _), (9, _), (11, _)]) [1, 2, 3, 4, 5, 6, 0] dX5_ownPart_204 rfl (by decide) rfl ?_
            refine x_iload (q := 208) dX5_ownPart_206 rfl rfl ?_
            refine xn_if_eq (q := 211) 215 dX5_ownPart_208 (by decide) rfl (by omega) (fun hc208 => absurd hc208 (by decide)) (fun hc208 => ?_)
            refine xn_lconst (q := 212) 0 dX5_ownPart_211 rfl (by decide) ?_
            refine x_goto 239 dX5_ownPart_212 (by decide) ?_
            exact x_lret rfl dX5_ownPart_239 (c_ret hM ⟨by unfold owP; rw [if_neg hc5, if_neg (fun z => z hc21), if_neg hc93, if_neg hc126]; unfold owS; rw [if_pos (by omega)]; rfl, rfl⟩)
          · refine x_aload_n (q := 192) dX5_ownPart_191 rfl rfl ?_
            refine c_get (q := 195) (k := p) (f := 10) hM (cE_pr _ _ hp) xclX5 fwX5_82 (by decide) dX5_ownPart_192 rfl rfl ?_
            refine x_topi (y := nI j) (by exact p10) ?_
            refine xn_iconst (q := 196) 4 dX5_ownPart_195 rfl (by decide) ?_
            refine xn_icmp_ne (q := 199) 203 dX5_ownPart_196 (by decide) rfl (by omega) (by omega) (fun hc196 => ?_) (fun hc196 => ?_)
            · refine xn_iconst (q := 204) 0 dX5_ownPart_203 rfl (by decide) ?_
              refine x_istore (q := 206) (ls' := [(0, _), (1, _), (3, _), (5, _), (7, _), (9, _), (11, _)]) [1, 2, 3, 4, 5, 6, 0] dX5_ownPart_204 rfl (by decide) rfl ?_
              refine x_iload (q := 208) dX5_ownPart_206 rfl rfl ?_
              refine xn_if_eq (q := 211) 215 dX5_ownPart_208 (by decide) rfl (by omega) (fun hc208 => ?_) (fun hc208 => absurd hc208 (by decide))
              refine x_aload_n (q := 216) dX5_ownPart_215 rfl rfl ?_
              refine c_get (q := 219) (k := p) (f := 1) hM (cE_pr _ _ hp) xclX5 fwX5_37 (by decide) dX5_ownPart_216 rfl rfl ?_
              refine c_call (q := 222) (k := 4) (As := []) hM rfl imX4_scale ivX4_scale ilX4_scale mwX5_120 xciX4 dX5_ownPart_219 rfl rfl rfl (Nat.le_of_ble_eq_true rfl) ?_
              refine (b_scale G l ad F R (d) σ).mono (fun x9 σ9' hp9 => ?_)
              obtain ⟨rfl, e9⟩ := hp9
              intro M N S hM
              rw [e9] at hM; clear e9 σ9'
              rw [hz.1]
              show xX G l _ (d + 1) _ _ _ _ M N S
              refine x_lload (q := 224) dX5_ownPart_222 rfl rfl ?_
              refine xn_lconst (q := 225) 0 dX5_ownPart_224 rfl (by decide) ?_
              refine xn_lcmp_le (q1 := 226) (q := 229) 237 dX5_ownPart_225 rfl dX5_ownPart_226 (by decide) rfl (by omega) (by omega) (fun hc225 => ?_) (fun hc225 => ?_)
              · refine x_lload_n (q := 238) dX5_ownPart_237 rfl rfl ?_
                refine xn_lmul (q := 239) dX5_ownPart_238 rfl ?_
                exact x_lret rfl dX5_ownPart_239 (c_ret hM ⟨by unfold owP; rw [if_neg hc5, if_neg (fun z => z hc21), if_neg hc93, if_neg hc126]; unfold owS; rw [if_neg (by omega), if_neg (by omega)]; rw [lN_i', Int.natCast_mul], rfl⟩)
              · refine x_lload_n (q := 230) dX5_ownPart_229 rfl rfl ?_
                refine xn_ldc2 (q := 233) 64 dX5_ownPart_230 rfl cwX5_146 ?_
                refine xi_lsub (q := 234) dX5_ownPart_233 rfl (lN_i' _) (lN_i' _) ?_
                refine x_goto 238 dX5_ownPart_234 (by decide) ?_
                refine xi_lmul (q := 239) dX5_ownPart_238 rfl (lN_i' _) rfl ?_
                exact x_lret rfl dX5_ownPart_239 (c_ret hM ⟨by unfold owP; rw [if_neg hc5, if_neg (fun z => z hc21), if_neg hc93, if_neg hc126]; unfold owS; rw [if_neg (by omega), if_pos (by omega)], rfl⟩)
            · refine xn_iconst (q := 200) 1 dX5_ownPart_199 rfl (by decide) ?_
              refine x_goto 204 dX5_ownPart_200 (by decide) ?_
              refine x_istore (q := 206) (ls' := [(0, _), (1, _), (3, _), (5, _), (7, _), (9, _), (11, _)]) [1, 2, 3, 4, 5, 6, 0] dX5_ownPart_204 rfl (by decide) rfl ?_
              refine x_iload (q := 208) dX5_ownPart_206 rfl rfl ?_
              refine xn_if_eq (q := 211) 215 dX5_ownPart_208 (by decide) rfl (by omega) (fun hc208 => absurd hc208 (by decide)) (fun hc208 => ?_)
              refine xn_lconst (q := 212) 0 dX5_ownPart_211 rfl (by decide) ?_
              refine x_goto 239 dX5_ownPart_212 (by decide) ?_
              exact x_lret rfl dX5_ownPart_239 (c_ret hM ⟨by unfold owP; rw [if_neg hc5, if_neg (fun z => z hc21), if_neg hc93, if_neg hc126]; unfold owS; rw [if_pos (by omega)]; rfl, rfl⟩)
        · refine x_aload_n (q := 130) dX5_ownPart_129 rfl rfl ?_
          refine c_get (q := 133) (k := p) (f := 8) hM (cE_pr _ _ hp) xclX5 fwX5_48 (by decide) dX5_ownPart_130 rfl rfl ?_
          refine x_topi (y := nI q) (by exact p8) ?_
          refine x_aload_n (q := 134) dX5_ownPart_133 rfl rfl ?_
          refine c_get (q := 137) (k := p) (f := 8) hM (cE_pr _ _ hp) xclX5 fwX5_48 (by decide) dX5_ownPart_134 rfl rfl ?_
          refine x_topi (y := nI q) (by exact p8) ?_
          refine xn_imul (q := 138) dX5_ownPart_137 rfl ?_
          refine xn_i2l (q := 139) dX5_ownPart_138 rfl (by have := Nat.mul_le_mul (show q ≤ 4 by omega) (show q ≤ 4 by omega); omega) ?_
          refine x_lstore (q := 141) (ls' := [(0, _), (1, _), (3, _), (5, _), (7, _), (9, _), (11, _)]) [1, 2, 3, 4, 5, 6, 0] dX5_ownPart_139 rfl (by decide) rfl ?_
          refine x_lload (q := 143) dX5_ownPart_141 rfl rfl ?_
          refine x_lload (q := 145) dX5_ownPart_143 rfl rfl ?_
          refine xn_lmul (q := 146) dX5_ownPart_145 rfl ?_
          refine x_lload (q := 148) dX5_ownPart_146 rfl rfl ?_
          refine xn_lmul (q := 149) dX5_ownPart_148 rfl ?_
          refine xn_ldc2 (q := 152) 12 dX5_ownPart_149 rfl cwX5_165 ?_
          refine x_lload (q := 154) dX5_ownPart_152 rfl rfl ?_
          refine xn_lmul (q := 155) dX5_ownPart_154 rfl ?_
          refine x_lload (q := 157) dX5_ownPart_155 rfl rfl ?_
          refine xn_lmul (q := 158) dX5_ownPart_157 rfl ?_
          refine x_lload_n (q := 159) dX5_ownPart_158 rfl rfl ?_
          refine x_lload (q := 161) dX5_ownPart_159 rfl rfl ?_
          refine xn_lmul (q := 162) dX5_ownPart_161 rfl ?_
          refine x_aload_n (q := 163) dX5_ownPart_162 rfl rfl ?_
          refine c_get (q := 166) (k := p) (f := 8) hM (cE_pr _ _ hp) xclX5 fwX5_48 (by decide) dX5_ownPart_163 rfl rfl ?_
          refine x_topi (y := nI q) (by exact p8) ?_
          refine xn_i2l (q := 167) dX5_ownPart_166 rfl (by omega) ?_
          refine xn_lmul (q := 168) dX5_ownPart_167 rfl ?_
          refine xi_lsub (q := 169) dX5_ownPart_168 rfl (lN_i' _) (lN_i' _) ?_
          refine xn_ldc2 (q := 172) 64 dX5_ownPart_169 rfl cwX5_146 ?_
          refine x_lload (q := 174) dX5_ownPart_172 rfl rfl ?_
          refine xn_lmul (q := 175) dX5_ownPart_174 rfl ?_
          refine x_lload (q := 177) dX5_ownPart_175 rfl rfl ?_
          refine xn_lmul (q := 178) dX5_ownPart_177 rfl ?_
          refine x_lload (q := 180) dX5_ownPart_178 rfl rfl ?_
          refine xn_lmul (q := 181) dX5_ownPart_180 rfl ?_
          refine xi_ladd (q := 182) dX5_ownPart_181 rfl rfl (lN_i' _) ?_
          refine xi_lmul (q := 183) dX5_ownPart_182 rfl (lN_i' _) rfl ?_
          exact x_lret rfl dX5_ownPart_183 (c_ret hM ⟨by unfold owP; rw [if_neg hc5, if_neg (fun z => z hc21), if_neg hc93, if_pos hc126]; rfl, rfl⟩)
      · refine x_lload (q := 98) dX5_ownPart_96 rfl rfl ?_
        refine x_lload_n (q := 99) dX5_ownPart_98 rfl rfl ?_
        refine x_aload_n (q := 100) dX5_ownPart_99 rfl rfl ?_
        refine c_get (q := 103) (k := p) (f := 8) hM (cE_pr _ _ hp) xclX5 fwX5_48 (by decide) dX5_ownPart_100 rfl rfl ?_
        refine x_topi (y := nI q) (by exact p8) ?_
        refine xn_i2l (q := 104) dX5_ownPart_103 rfl (by omega) ?_
        refine xn_lmul (q := 105) dX5_ownPart_104 rfl ?_
        refine xn_ldc2 (q := 108) 4 dX5_ownPart_105 rfl cwX5_163 ?_
        refine x_lload (q := 110) dX5_ownPart_108 rfl rfl ?_
        refine xn_lmul (q := 111) dX5_ownPart_110 rfl ?_
        refine xi_lsub (q := 112) dX5_ownPart_111 rfl (lN_i' _) (lN_i' _) ?_
        refine xn_ldc2 (q := 115) 64 dX5_ownPart_112 rfl cwX5_146 ?_
        refine x_lload (q := 117) dX5_ownPart_115 rfl rfl ?_
        refine xn_lmul (q := 118) dX5_ownPart_117 rfl ?_
        refine xi_lsub (q := 119) dX5_ownPart_118 rfl rfl (lN_i' _) ?_
        refine xi_lmul (q := 120) dX5_ownPart_119 rfl (lN_i' _) rfl ?_
        exact x_lret rfl dX5_ownPart_120 (c_ret hM ⟨by unfold owP; rw [if_neg hc5, if_neg (fun z => z hc21), if_pos hc93]; rfl, rfl⟩)
    · refine xn_lconst (q := 25) 0 dX5_ownPart_24 rfl (by decide) ?_
      exact x_lret rfl dX5_ownPart_25 (c_ret hM ⟨by unfold owP; rw [if_neg hc5, if_pos hc21]; rfl, rfl⟩)
  · refine x_aload_n (q := 9) dX5_ownPart_8 rfl rfl ?_
    refine c_call (q := 12) (k := p) (As := []) hM (cE_pr _ _ hp) imX5_ownReaction ivX5_ownReaction ilX5_ownReaction mwX5_154 xciX5 dX5_ownPart_9 rfl rfl rfl (Nat.le_of_ble_eq_true rfl) ?_
    refine (b_ownReaction G l ad F R d σ p hp as _ (pa hc5) prg).mono (fun x9 σ9' hp => ?_)
    obtain ⟨rfl, e9⟩ := hp
    intro M N S hM
    rw [e9] at hM; clear e9 σ9'
    show xX G l _ (d + 1) _ _ _ _ M N S
    exact x_lret rfl dX5_ownPart_12 (c_ret hM ⟨by unfold owP; rw [if_pos hc5], rfl⟩)

set_option maxRecDepth 100000 in
set_option maxHeartbeats 4000000 in
theorem b_under (G : xG) (l : Launch) (ad : Nat → Nat) (F : xM) (R : Nat × Nat) (d : Nat) (σ : cZ) (p : Nat) (hp : p = 5 ∨ p = 6) (b : Nat) (hb : isBg b) (hb5 : b ≠ 155) (y wh : Int) (hy : Bg σ 155 y) (hw : (σ p).2.1 12 = iL wh) (hwb : wh.natAbs ≤ 3000000000) (hyb : y.natAbs < B9 ^ 1000) : cC G l ad F R YX5_under (d + 4) [.ref (ad p), .ref (ad b)] σ (fun r σ' => r = none ∧ kp [b, b + 100] σ σ' ∧ Bg σ' b (y * wh)) := by
  have n1 : p ∉ [b, b + 100] ∧ 155 ∉ [b, b + 100] ∧ 155 + 100 ∉ [b, b + 100] := by have := hb.1; have := hb.2; simp; omega
  refine cC.of (ls := [(0, .ref (ad p)), (1, .ref (ad b))]) (by decide) (Nat.le_of_ble_eq_true rfl) rfl fun M N S hM => ?_

  refine x_aload_n (q := 1) dX5_under_0 rfl rfl ?_
  refine xn_lconst (q := 2) 0 dX5_under_1 rfl (by decide) ?_
  refine x_topl (y := iL 0) rfl ?_
  refine c_call (q := 5) (k := b) (As := [_]) hM (cE_big _ _ hb) imX2_takeLong ivX2_takeLong ilX2_takeLong mwX5_93 xciX2 dX5_under_2 rfl rfl rfl (Nat.le_of_ble_eq_true rfl) ?_
  refine (b_takeLong G l ad F R (d + 2) σ b hb 0 (by decide)).mono (fun x9 σ2 hp => ?_)
  obtain ⟨rfl, q1, q2⟩ := hp
  intro M N S hM
  show xX G l _ (d + 4) _ _ _ _ M N S
  refine x_aload_n (q := 6) dX5_under_5 rfl rfl ?_
  refine x_aload_n (q := 7) dX5_under_6 rfl rfl ?_
  refine c_get (q := 10) (k := p) (f := 1) hM (cE_pr _ _ hp) xclX5 fwX5_37 (by decide) dX5_under_7 rfl rfl ?_
  refine c_call (q := 13) (k := 4) (As := []) hM rfl imX4_divisor ivX4_divisor ilX4_divisor mwX5_105 xciX4 dX5_under_10 rfl rfl rfl (Nat.le_of_ble_eq_true rfl) ?_
  refine (b_divisor G l ad F R (d + 3) σ2).mono (fun x9 σ9' hp => ?_)
  obtain ⟨rfl, e9⟩ := hp
  intro M N S hM
  rw [e9] at hM; clear e9 σ9'
  show xX G l _ (d + 4) _ _ _ _ M N S
  refine x_aload_n (q := 14) dX5_under_13 rfl rfl ?_
  refine c_get (q := 17) (k := p) (f := 12) hM (cE_pr _ _ hp) xclX5 fwX5_113 (by decide) dX5_under_14 rfl rfl ?_
  refine x_topl (y := iL wh) (by rw [q1 p n1.1]; exact hw) ?_
  refine c_call (q := 20) (k := b) (As := [_, _]) hM (cE_big _ _ hb) imX2_addTimes ivX2_addTimes ilX2_addTimes mwX5_101 xciX2 dX5_under_17 rfl rfl rfl (Nat.le_of_ble_eq_true rfl) ?_
  refine (b_addTimes G l ad F R (d + 0) σ2 b 155 hb ⟨by decide, by decide⟩ hb5 0 y wh q2 (q1.bg n1.2.1 n1.2.2 hy) hwb (by rw [Int.natAbs_zero]; exact B9_pos _) hyb).mono (fun x9 σ17 hp => ?_)
  obtain ⟨rfl, r1, r2⟩ := hp
  intro M N S hM
  show xX G l _ (d + 4) _ _ _ _ M N S
  rw [Int.zero_add] at r2
  exact x_vret rfl dX5_under_20 (c_ret hM ⟨rfl, q1.trans r1, r2⟩)

end XC9
