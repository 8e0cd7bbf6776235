section XS1
theorem B9m {u v : Int} {a b : Nat} (hu : u.natAbs < B9 ^ a) (hv : v.natAbs < B9 ^ b) : (u * v).natAbs < B9 ^ (a + b) := by
  rw [Int.natAbs_mul, Nat.pow_add]
  exact Nat.mul_lt_mul'' hu hv
theorem B9a {u v : Int} {a : Nat} (hu : u.natAbs < B9 ^ a) (hv : v.natAbs < B9 ^ a) : (u + v).natAbs < B9 ^ (a + 1) := by
  have h1 := Int.natAbs_add_le u v
  have h2 : B9 ^ (a + 1) = B9 * B9 ^ a := by rw [Nat.pow_succ, Nat.mul_comm]
  have h3 : 2 * B9 ^ a ≤ B9 * B9 ^ a := Nat.mul_le_mul_right _ (by decide)
  omega
theorem B9up {u a b : Nat} (hu : u < B9 ^ a) (h : a ≤ b) : u < B9 ^ b := Nat.lt_of_lt_of_le hu (B9_mono h)
theorem redP_lt {u w : Int} {a : Nat} (hw : w ≠ 0) (hu : u.natAbs < B9 ^ a) : (redP u w).natAbs < B9 ^ a := by
  rw [redP_abs hw]; exact Nat.lt_of_le_of_lt (Nat.div_le_self _ _) hu
theorem redQ_lt {u w : Int} {a : Nat} (hu : w.natAbs < B9 ^ a) : (redQ u w).natAbs < B9 ^ a := by
  unfold redQ; rw [Int.natAbs_natCast]; exact Nat.lt_of_le_of_lt (Nat.div_le_self _ _) hu
theorem redQ_ne {u w : Int} (hw : w ≠ 0) : redQ u w ≠ 0 := by
  unfold redQ
  have hp : 0 < w.natAbs := by omega
  have := Nat.div_pos (Nat.gcd_le_right u.natAbs hp) (Nat.gcd_pos_of_pos_right _ hp)
  omega
def sumP (p q : Int × Int) : Int × Int := (redP (p.1 * q.2 + q.1 * p.2) (p.2 * q.2), redQ (p.1 * q.2 + q.1 * p.2) (p.2 * q.2))
set_option maxRecDepth 100000 in
set_option maxHeartbeats 4000000 in
theorem c_sum (G : xG) (l : Launch) (o : Nat) (as : Nat → Nat) (M0 : xM) (N S : Nat) (d : Nat) (σ : mS) (p q : Int × Int) (a b e f : Nat) (h7 : Reg σ 7 p.1) (h8 : Reg σ 8 p.2) (h0 : Reg σ 0 q.1) (h1 : Reg σ 1 q.2) (hp : p.2 ≠ 0) (hq : q.2 ≠ 0) (ha : p.1.natAbs < B9 ^ a) (hb : p.2.natAbs < B9 ^ b) (he : q.1.natAbs < B9 ^ e) (hf : q.2.natAbs < B9 ^ f) (haf : a + f ≤ 396) (hbe : b + e ≤ 396) (hbf : b + f ≤ 396) : mC G l o as M0 N S YX9_sum (d + 4) [] σ (fun x σ' => x = none ∧ keeps [0, 1, 2, 3, 7, 8, 11, 12, 13, 14, 15] σ σ' ∧ Reg σ' 7 (sumP p q).1 ∧ Reg σ' 8 (sumP p q).2) := by
  refine mC.of (ls := [(0, .ref o)]) (by decide) (Nat.le_of_ble_eq_true rfl) rfl fun M hM => ?_
  have b1 := B9up (B9m ha hf) haf
  have b2 := B9up (B9m he hb) (show e + b ≤ 396 by omega)
  have b3 := B9up (B9m hb hf) hbf
  have b4 := B9a b1 b2
  refine x_aload_n (q := 1) dX9_sum_0 rfl rfl ?_
  refine xn_bipush (q := 3) 7 dX9_sum_1 rfl (by decide) ?_
  refine xn_iconst (q := 4) 1 dX9_sum_3 rfl (by decide) ?_
  refine xn_iconst (q := 5) 2 dX9_sum_4 rfl (by decide) ?_
  refine m_call (q := 8) (As := [_, _, _]) hM imX9_multiply ivX9_multiply ilX9_multiply mwX9_198 xciX9 dX9_sum_5 rfl rfl rfl (Nat.le_of_ble_eq_true rfl) ?_
  refine (c_multiply G l o as M0 N S (d + 2) 7 1 2 (by decide) (by decide) (by decide) (by decide) (by decide) σ _ _ a f h7 h1 ha hf (by omega)).mono (fun x9 σ5 hp => ?_)
  obtain ⟨rfl, k5, r5⟩ := hp
  intro M hM
  show xX G l _ (d + 4) _ _ _ _ M N S
  refine x_aload_n (q := 9) dX9_sum_8 rfl rfl ?_
  refine xn_iconst (q := 10) 0 dX9_sum_9 rfl (by decide) ?_
  refine xn_bipush (q := 12) 8 dX9_sum_10 rfl (by decide) ?_
  refine xn_iconst (q := 13) 3 dX9_sum_12 rfl (by decide) ?_
  refine m_call (q := 16) (As := [_, _, _]) hM imX9_multiply ivX9_multiply ilX9_multiply mwX9_198 xciX9 dX9_sum_13 rfl rfl rfl (Nat.le_of_ble_eq_true rfl) ?_
  refine (c_multiply G l o as M0 N S (d + 2) 0 8 3 (by decide) (by decide) (by decide) (by decide) (by decide) σ5 _ _ e b (k5.reg (by decide) h0) (k5.reg (by decide) h8) he hb (by omega)).mono (fun x9 σ6 hp => ?_)
  obtain ⟨rfl, k6, r6⟩ := hp
  intro M hM
  show xX G l _ (d + 4) _ _ _ _ M N S
  refine x_aload_n (q := 17) dX9_sum_16 rfl rfl ?_
  refine xn_iconst (q := 18) 2 dX9_sum_17 rfl (by decide) ?_
  refine xn_iconst (q := 19) 3 dX9_sum_18 rfl (by decide) ?_
  refine xn_iconst (q := 20) 1 dX9_sum_19 rfl (by decide) ?_
  refine xn_iconst (q := 21) 0 dX9_sum_20 rfl (by decide) ?_
  refine m_call (q := 24) (As := [_, _, _, _]) hM imX9_add ivX9_add ilX9_add mwX9_201 xciX9 dX9_sum_21 rfl rfl rfl (Nat.le_of_ble_eq_true rfl) ?_
  refine (c_add G l o as M0 N S (d + 1) 2 3 0 (by decide) (by decide) (by decide) (by decide) (by decide) σ6 _ _ 1 _ (k6.reg (by decide) r5) r6 (.inl rfl) rfl (B9up b1 (by decide)) (B9up b2 (by decide))).mono (fun x9 σ7 hp => ?_)
  obtain ⟨rfl, k7, r7⟩ := hp
  intro M hM
  show xX G l _ (d + 4) _ _ _ _ M N S
  rw [Int.one_mul] at r7
  have g8 := k7.reg (by decide) (k6.reg (by decide) (k5.reg (by decide) h8))
  have g1 := k7.reg (by decide) (k6.reg (by decide) (k5.reg (by decide) h1))
  refine x_aload_n (q := 25) dX9_sum_24 rfl rfl ?_
  refine xn_bipush (q := 27) 8 dX9_sum_25 rfl (by decide) ?_
  refine xn_iconst (q := 28) 1 dX9_sum_27 rfl (by decide) ?_
  refine xn_iconst (q := 29) 2 dX9_sum_28 rfl (by decide) ?_
  refine m_call (q := 32) (As := [_, _, _]) hM imX9_multiply ivX9_multiply ilX9_multiply mwX9_198 xciX9 dX9_sum_29 rfl rfl rfl (Nat.le_of_ble_eq_true rfl) ?_
  refine (c_multiply G l o as M0 N S (d + 2) 8 1 2 (by decide) (by decide) (by decide) (by decide) (by decide) σ7 _ _ b f g8 g1 hb hf (by omega)).mono (fun x9 σ8 hp => ?_)
  obtain ⟨rfl, k8, r8⟩ := hp
  intro M hM
  show xX G l _ (d + 4) _ _ _ _ M N S
  refine x_aload_n (q := 33) dX9_sum_32 rfl rfl ?_
  refine xn_iconst (q := 34) 2 dX9_sum_33 rfl (by decide) ?_
  refine xn_iconst (q := 35) 1 dX9_sum_34 rfl (by decide) ?_
  refine m_call (q := 38) (As := [_, _]) hM imX9_copy ivX9_copy ilX9_copy mwX9_107 xciX9 dX9_sum_35 rfl rfl rfl (Nat.le_of_ble_eq_true rfl) ?_
  refine (c_copy G l o as M0 N S (d + 3) 2 1 (by decide) (by decide) (by decide) σ8 _ r8).mono (fun x9 σ9 hp => ?_)
  obtain ⟨rfl, k9, r9⟩ := hp
  intro M hM
  show xX G l _ (d + 4) _ _ _ _ M N S
  refine x_aload_n (q := 39) dX9_sum_38 rfl rfl ?_
  refine m_call (q := 42) (As := []) hM imX9_reduce ivX9_reduce ilX9_reduce mwX9_327 xciX9 dX9_sum_39 rfl rfl rfl (Nat.le_of_ble_eq_true rfl) ?_
  refine (c_reduce G l o as M0 N S (d + 0) σ9 _ _ (k9.reg (by decide) (k8.reg (by decide) r7)) r9 (Int.mul_ne_zero hp hq) b4 (B9up b3 (by decide))).mono (fun x9 σ10 hp => ?_)
  obtain ⟨rfl, k10, r100, r101⟩ := hp
  intro M hM
  show xX G l _ (d + 4) _ _ _ _ M N S
  refine x_aload_n (q := 43) dX9_sum_42 rfl rfl ?_
  refine xn_iconst (q := 44) 0 dX9_sum_43 rfl (by decide) ?_
  refine xn_bipush (q := 46) 7 dX9_sum_44 rfl (by decide) ?_
  refine m_call (q := 49) (As := [_, _]) hM imX9_copy ivX9_copy ilX9_copy mwX9_107 xciX9 dX9_sum_46 rfl rfl rfl (Nat.le_of_ble_eq_true rfl) ?_
  refine (c_copy G l o as M0 N S (d + 3) 0 7 (by decide) (by decide) (by decide) σ10 _ r100).mono (fun x9 σ11 hp => ?_)
  obtain ⟨rfl, k11, r11⟩ := hp
  intro M hM
  show xX G l _ (d + 4) _ _ _ _ M N S
  refine x_aload_n (q := 50) dX9_sum_49 rfl rfl ?_
  refine xn_iconst (q := 51) 1 dX9_sum_50 rfl (by decide) ?_
  refine xn_bipush (q := 53) 8 dX9_sum_51 rfl (by decide) ?_
  refine m_call (q := 56) (As := [_, _]) hM imX9_copy ivX9_copy ilX9_copy mwX9_107 xciX9 dX9_sum_53 rfl rfl rfl (Nat.le_of_ble_eq_true rfl) ?_
  refine (c_copy G l o as M0 N S (d + 3) 1 8 (by decide) (by decide) (by decide) σ11 _ (k11.reg (by decide) r101)).mono (fun x9 σ12 hp => ?_)
  obtain ⟨rfl, k12, r12⟩ := hp
  intro M hM
  show xX G l _ (d + 4) _ _ _ _ M N S
  exact x_vret rfl dX9_sum_56 (m_ret hM ⟨rfl, (k5.s (by simp)).trans ((k6.s (by simp)).trans ((k7.s (by simp)).trans ((k8.s (by simp)).trans ((k9.s (by simp)).trans ((k10.mono (by intro r hr; simp at hr ⊢; omega)).trans ((k11.s (by simp)).trans (k12.s (by simp)))))))), k12.reg (by decide) r11, r12⟩)
/-- a piece of the area: what lies above 0 between two values -/
def pcU (x y L : Int) : Int × Int := if 0 ≤ x ∧ 0 ≤ y then ((x + y) * L, 1) else if 0 < x then (x * x * L, x - y) else (y * y * L, y - x)
def pieceP (p : Int × Int) (x y L : Int) : Int × Int := if x ≤ 0 ∧ y ≤ 0 then p else sumP p (pcU x y L)
theorem sg_gt {v : Int} : (0 : Int32) < sg v ↔ 0 < v := by
  rcases Int.lt_trichotomy v 0 with e | e | e
  · rw [sg_neg e]; exact ⟨fun h => absurd h (by decide), fun h => by omega⟩
  · rw [e]; exact ⟨fun h => absurd h (by decide), fun h => absurd h (by decide)⟩
  · rw [sg_pos e]; exact ⟨fun _ => e, fun _ => by decide⟩
theorem sg_lt {v : Int} : sg v < (0 : Int32) ↔ v < 0 := by
  rcases Int.lt_trichotomy v 0 with e | e | e
  · rw [sg_neg e]; exact ⟨fun _ => e, fun _ => by decide⟩
  · rw [e]; exact ⟨fun h => absurd h (by decide), fun h => absurd h (by decide)⟩
  · rw [sg_pos e]; exact ⟨fun h => absurd h (by decide), fun h => by omega⟩
theorem sg_iI (v : Int) : sg v = iI v.sign := by
  rcases Int.lt_trichotomy v 0 with e | e | e
  · rw [sg_neg e, Int.sign_eq_neg_one_of_neg e]; rfl
  · rw [e]; rfl
  · rw [sg_pos e, Int.sign_eq_one_of_pos e]; rfl
theorem sign_bd (v : Int) : -1 ≤ v.sign ∧ v.sign ≤ 1 := by
  rcases Int.lt_trichotomy v 0 with e | e | e
  · rw [Int.sign_eq_neg_one_of_neg e]; decide
  · rw [e]; decide
  · rw [Int.sign_eq_one_of_pos e]; decide
theorem sign_p {v : Int} : 0 < v.sign ↔ 0 < v := Int.sign_pos_iff
theorem sign_n {v : Int} : v.sign < 0 ↔ v < 0 := Int.sign_neg_iff
theorem pcU_ne {x y L : Int} (h : ¬ (x ≤ 0 ∧ y ≤ 0)) : (pcU x y L).2 ≠ 0 := by
  unfold pcU
  split
  · show (1 : Int) ≠ 0; decide
  · split
    · show x - y ≠ 0; omega
    · show y - x ≠ 0; omega
theorem pcU_lt {x y L : Int} (hx : x.natAbs < B9 ^ 24) (hy : y.natAbs < B9 ^ 24) (hL : L.natAbs < B9 ^ 1) : (pcU x y L).1.natAbs < B9 ^ 49 ∧ (pcU x y L).2.natAbs < B9 ^ 25 := by
  have s1 : (x - y).natAbs < B9 ^ 25 := B9a (u := x) (v := -y) hx (by rw [Int.natAbs_neg]; exact hy)
  have s2 : (y - x).natAbs < B9 ^ 25 := B9a (u := y) (v := -x) hy (by rw [Int.natAbs_neg]; exact hx)
  unfold pcU
  split
  · exact ⟨B9up (B9m (B9a hx hy) hL) (by decide), B9up (a := 1) (show (1 : Int).natAbs < B9 ^ 1 by decide) (by decide)⟩
  · split
    · exact ⟨B9m (B9m hx hx) hL, s1⟩
    · exact ⟨B9m (B9m hy hy) hL, s2⟩
def acc (p : Int × Int) (j : Nat) : Prop := p.1.natAbs < B9 ^ (26 * j + 26) ∧ p.2.natAbs < B9 ^ (26 * j + 1) ∧ p.2 ≠ 0
theorem acc.up {p : Int × Int} {j : Nat} (h : acc p j) {x y L : Int} (hx : x.natAbs < B9 ^ 24) (hy : y.natAbs < B9 ^ 24) (hL : L.natAbs < B9 ^ 1) : acc (pieceP p x y L) (j + 1) := by
  unfold pieceP
  split
  · exact ⟨B9up h.1 (by omega), B9up h.2.1 (by omega), h.2.2⟩
  · rename_i h0
    have hn := pcU_ne (L := L) h0
    have hl := pcU_lt hx hy hL
    have hd := Int.mul_ne_zero h.2.2 hn
    have b1 := B9m h.1 hl.2
    have b2 := B9m hl.1 h.2.1
    have b3 := B9m h.2.1 hl.2
    have b4 := B9a (B9up b1 (show 26 * j + 26 + 25 ≤ 26 * j + 51 by omega)) (B9up b2 (show 49 + (26 * j + 1) ≤ 26 * j + 51 by omega))
    exact ⟨redP_lt hd (B9up b4 (by omega)), redQ_lt (B9up b3 (by omega)), redQ_ne hd⟩
set_option maxRecDepth 100000 in
set_option maxHeartbeats 4000000 in
theorem c_piece (G : xG) (l : Launch) (o : Nat) (as : Nat → Nat) (M0 : xM) (N S : Nat) (d : Nat) (σ : mS) (p : Int × Int) (x5 y6 L : Int) (Ln : Nat) (hLn : L = Ln) (hL12 : Ln ≤ 12) (j : Nat) (hj : j ≤ 12) (hacc : acc p j) (h7 : Reg σ 7 p.1) (h8 : Reg σ 8 p.2) (h5 : Reg σ 5 x5) (h6 : Reg σ 6 y6) (hx : x5.natAbs < B9 ^ 24) (hy : y6.natAbs < B9 ^ 24) : mC G l o as M0 N S YX9_piece (d + 5) [.long (lN Ln)] σ (fun x σ' => x = none ∧ keeps [0, 1, 2, 3, 7, 8, 11, 12, 13, 14, 15] σ σ' ∧ Reg σ' 7 (pieceP p x5 y6 L).1 ∧ Reg σ' 8 (pieceP p x5 y6 L).2) := by
  have g5 : σ.2.1 16 5 = iI x5.sign := (h5.choose_spec.2.2.2.1).trans (sg_iI _)
  have g6 : σ.2.1 16 6 = iI y6.sign := (h6.choose_spec.2.2.2.1).trans (sg_iI _)
  have b5 := sign_bd x5
  have b6 := sign_bd y6
  have p5 := sign_p (v := x5)
  have p6 := sign_p (v := y6)
  have n5 := sign_n (v := x5)
  have n6 := sign_n (v := y6)
  have hL1 : L.natAbs < B9 ^ 1 := by rw [hLn, Int.natAbs_natCast, Nat.pow_one]; exact Nat.lt_of_le_of_lt hL12 (by decide)
  refine mC.of (ls := [(0, .ref o), (1, .long (lN Ln))]) (by decide) (Nat.le_of_ble_eq_true rfl) rfl fun M hM => ?_
  have s91 : ∀ (σ1 : mS) (M : xM) (u : Int) (ls : List (Nat × Value)), ¬ (x5 ≤ 0 ∧ y6 ≤ 0) → keeps [0, 1, 2, 3, 7, 8, 11, 12, 13, 14, 15] σ σ1 → Reg σ1 7 p.1 → Reg σ1 8 p.2 → Reg σ1 0 u → u.natAbs < B9 ^ 48 → u * L = (pcU x5 y6 L).1 → Reg σ1 1 (pcU x5 y6 L).2 → mAt o as σ1 M0 M → xX G l YX9_piece (d + 5) (mQ o as M0 N S (fun x σ' => x = none ∧ keeps [0, 1, 2, 3, 7, 8, 11, 12, 13, 14, 15] σ σ' ∧ Reg σ' 7 (pieceP p x5 y6 L).1 ∧ Reg σ' 8 (pieceP p x5 y6 L).2)) 91 [(0, .ref o), (1, .long (lN Ln))] [] M N S := by
    intro σ1 M u ls hne k1 r7 r8 r0 hu hul r1 hM
    have hl := pcU_lt hx hy hL1
    have e0 : pieceP p x5 y6 L = sumP p (pcU x5 y6 L) := if_neg hne
    rw [e0]
    refine x_aload_n (q := 92) dX9_piece_91 rfl rfl ?_
    refine xn_iconst (q := 93) 0 dX9_piece_92 rfl (by decide) ?_
    refine x_lload_n (q := 94) dX9_piece_93 rfl rfl ?_
    refine m_call (q := 97) (As := [_, _]) hM imX9_multiplySmall ivX9_multiplySmall ilX9_multiplySmall mwX9_129 xciX9 dX9_piece_94 rfl rfl rfl (Nat.le_of_ble_eq_true rfl) ?_
    refine (c_multiplySmall G l o as M0 N S (d + 3) 0 (by decide) _ L (by rw [hLn]; exact lN_t (by omega)) (by omega) σ1 _ r0 (B9up hu (by decide))).mono (fun x9 σ5 hp => ?_)
    obtain ⟨rfl, k5, r5⟩ := hp
    intro M hM
    show xX G l _ (d + 5) _ _ _ _ M N S
    rw [hul] at r5
    refine x_aload_n (q := 98) dX9_piece_97 rfl rfl ?_
    refine m_call (q := 101) (As := []) hM imX9_sum ivX9_sum ilX9_sum mwX9_333 xciX9 dX9_piece_98 rfl rfl rfl (Nat.le_of_ble_eq_true rfl) ?_
    refine (c_sum G l o as M0 N S d σ5 p (pcU x5 y6 L) (26 * j + 26) (26 * j + 1) 49 25 (k5.reg (by decide) r7) (k5.reg (by decide) r8) r5 (k5.reg (by decide) r1) hacc.2.2 (pcU_ne hne) hacc.1 hacc.2.1 hl.1 hl.2 (by omega) (by omega) (by omega)).mono (fun x9 σ6 hp => ?_)
    obtain ⟨rfl, k6, r6, r68⟩ := hp
    intro M hM
    show xX G l _ (d + 5) _ _ _ _ M N S
    exact x_vret rfl dX9_piece_101 (m_ret hM ⟨rfl, k1.trans ((k5.s (by simp)).trans k6), r6, r68⟩)
  have s57 : ∀ (M : xM) (t : Nat) (u v : Int), (t = 5 ∧ u = x5 ∧ v = y6 ∨ t = 6 ∧ u = y6 ∧ v = x5) → ¬ (x5 ≤ 0 ∧ y6 ≤ 0) → pcU x5 y6 L = (u * u * L, u - v) → mAt o as σ M0 M → xX G l YX9_piece (d + 5) (mQ o as M0 N S (fun x σ' => x = none ∧ keeps [0, 1, 2, 3, 7, 8, 11, 12, 13, 14, 15] σ σ' ∧ Reg σ' 7 (pieceP p x5 y6 L).1 ∧ Reg σ' 8 (pieceP p x5 y6 L).2)) 72 [(0, .ref o), (1, .long (lN Ln))] [.int (nI t)] M N S := by
    intro M t u v ht hne hpc hM
    have hru : Reg σ t u := by rcases ht with ⟨rfl, rfl, rfl⟩ | ⟨rfl, rfl, rfl⟩; exact h5; exact h6
    have hrv : Reg σ (11 - t) v := by rcases ht with ⟨rfl, rfl, rfl⟩ | ⟨rfl, rfl, rfl⟩; exact h6; exact h5
    have hu : u.natAbs < B9 ^ 24 := by rcases ht with ⟨rfl, rfl, rfl⟩ | ⟨rfl, rfl, rfl⟩; exact hx; exact hy
    have hv : v.natAbs < B9 ^ 24 := by rcases ht with ⟨rfl, rfl, rfl⟩ | ⟨rfl, rfl, rfl⟩; exact hy; exact hx
    have ht6 : 5 ≤ t ∧ t ≤ 6 := by omega
    refine x_istore_n (q := 73) (ls' := [(0, _), (1, _), (3, _)]) [1, 2, 0] dX9_piece_72 rfl (by decide) rfl ?_
    refine x_aload_n (q := 74) dX9_piece_73 rfl rfl ?_
    refine x_iload_n (q := 75) dX9_piece_74 rfl rfl ?_
    refine x_iload_n (q := 76) dX9_piece_75 rfl rfl ?_
    refine xn_iconst (q := 77) 0 dX9_piece_76 rfl (by decide) ?_
    refine m_call (q := 80) (As := [_, _, _]) hM imX9_multiply ivX9_multiply ilX9_multiply mwX9_198 xciX9 dX9_piece_77 rfl rfl rfl (Nat.le_of_ble_eq_true rfl) ?_
    refine (c_multiply G l o as M0 N S (d + 3) t t 0 (by omega) (by omega) (by decide) (by omega) (by omega) σ _ _ 24 24 hru hru hu hu (by decide)).mono (fun x9 σ5 hp => ?_)
    obtain ⟨rfl, k5, r5⟩ := hp
    intro M hM
    show xX G l _ (d + 5) _ _ _ _ M N S
    refine x_aload_n (q := 81) dX9_piece_80 rfl rfl ?_
    refine x_iload_n (q := 82) dX9_piece_81 rfl rfl ?_
    refine xn_bipush (q := 84) 11 dX9_piece_82 rfl (by decide) ?_
    refine x_iload_n (q := 85) dX9_piece_84 rfl rfl ?_
    refine xn_isub (q := 86) dX9_piece_85 rfl (by omega) ?_
    refine x_iconst (q := 87) (-1) dX9_piece_86 rfl (by decide) ?_
    refine xn_iconst (q := 88) 1 dX9_piece_87 rfl (by decide) ?_
    refine m_call (q := 91) (As := [_, _, _, _]) hM imX9_add ivX9_add ilX9_add mwX9_201 xciX9 dX9_piece_88 rfl rfl rfl (Nat.le_of_ble_eq_true rfl) ?_
    refine (c_add G l o as M0 N S (d + 2) t (11 - t) 1 (by omega) (by omega) (by decide) (by omega) (by omega) σ5 u v (-1) _ (k5.reg (by omega) hru) (k5.reg (by omega) hrv) (.inr rfl) rfl (B9up hu (by decide)) (B9up hv (by decide))).mono (fun x9 σ6 hp => ?_)
    obtain ⟨rfl, k6, r6⟩ := hp
    intro M hM
    show xX G l _ (d + 5) _ _ _ _ M N S
    rw [show u + -1 * v = u - v by omega] at r6
    refine x_ls (ls' := [(0, _), (1, _)]) [0, 1] rfl ?_
    exact s91 σ6 M (u * u) [] hne ((k5.s (by simp)).trans (k6.s (by simp))) (k6.reg (by decide) (k5.reg (by decide) h7)) (k6.reg (by decide) (k5.reg (by decide) h8)) (k6.reg (by decide) r5) (B9m hu hu) (by rw [hpc]) (by rw [hpc]; exact r6) hM
  refine x_aload_n (q := 1) dX9_piece_0 rfl rfl ?_
  refine m_get (q := 4) hM 16 fwX9_47 (by decide) dX9_piece_1 rfl rfl ?_
  refine xn_iconst (q := 5) 5 dX9_piece_4 rfl (by decide) ?_
  refine m_iald (q := 6) hM (n := 16) (by decide) dX9_piece_5 rfl (by omega) ?_
  rw [g5]
  refine xi_if_gt (q := 9) 20 dX9_piece_6 (by decide) rfl rfl (by omega) (by omega) (fun hc6 => ?_) (fun hc6 => ?_)
  · refine x_aload_n (q := 21) dX9_piece_20 rfl rfl ?_
    refine m_get (q := 24) hM 16 fwX9_47 (by decide) dX9_piece_21 rfl rfl ?_
    refine xn_iconst (q := 25) 5 dX9_piece_24 rfl (by decide) ?_
    refine m_iald (q := 26) hM (n := 16) (by decide) dX9_piece_25 rfl (by omega) ?_
    rw [g5]
    refine xi_if_lt (q := 29) 57 dX9_piece_26 (by decide) rfl rfl (by omega) (by omega) (fun hc26 => ?_) (fun hc26 => ?_)
    · refine x_aload_n (q := 58) dX9_piece_57 rfl rfl ?_
      refine m_get (q := 61) hM 16 fwX9_47 (by decide) dX9_piece_58 rfl rfl ?_
      refine xn_iconst (q := 62) 5 dX9_piece_61 rfl (by decide) ?_
      refine m_iald (q := 63) hM (n := 16) (by decide) dX9_piece_62 rfl (by omega) ?_
      rw [g5]
      refine xi_if_le (q := 66) 70 dX9_piece_63 (by decide) rfl rfl (by omega) (by omega) (fun hc63 => ?_) (fun hc63 => ?_)
      · refine xn_bipush (q := 72) 6 dX9_piece_70 rfl (by decide) ?_
        exact s57 M 6 y6 x5 (.inr ⟨rfl, rfl, rfl⟩) (by omega) (by unfold pcU; rw [if_neg (by omega), if_neg (by omega)]) hM
      · refine xn_iconst (q := 67) 5 dX9_piece_66 rfl (by decide) ?_
        refine x_goto 72 dX9_piece_67 (by decide) ?_
        exact s57 M 5 x5 y6 (.inl ⟨rfl, rfl, rfl⟩) (by omega) (by unfold pcU; rw [if_neg (by omega), if_pos (by omega)]) hM
    · refine x_aload_n (q := 30) dX9_piece_29 rfl rfl ?_
      refine m_get (q := 33) hM 16 fwX9_47 (by decide) dX9_piece_30 rfl rfl ?_
      refine xn_bipush (q := 35) 6 dX9_piece_33 rfl (by decide) ?_
      refine m_iald (q := 36) hM (n := 16) (by decide) dX9_piece_35 rfl (by omega) ?_
      rw [g6]
      refine xi_if_lt (q := 39) 57 dX9_piece_36 (by decide) rfl rfl (by omega) (by omega) (fun hc36 => ?_) (fun hc36 => ?_)
      · refine x_aload_n (q := 58) dX9_piece_57 rfl rfl ?_
        refine m_get (q := 61) hM 16 fwX9_47 (by decide) dX9_piece_58 rfl rfl ?_
        refine xn_iconst (q := 62) 5 dX9_piece_61 rfl (by decide) ?_
        refine m_iald (q := 63) hM (n := 16) (by decide) dX9_piece_62 rfl (by omega) ?_
        rw [g5]
        refine xi_if_le (q := 66) 70 dX9_piece_63 (by decide) rfl rfl (by omega) (by omega) (fun hc63 => ?_) (fun hc63 => ?_)
        · refine xn_bipush (q := 72) 6 dX9_piece_70 rfl (by decide) ?_
          exact s57 M 6 y6 x5 (.inr ⟨rfl, rfl, rfl⟩) (by omega) (by unfold pcU; rw [if_neg (by omega), if_neg (by omega)]) hM
        · refine xn_iconst (q := 67) 5 dX9_piece_66 rfl (by decide) ?_
          refine x_goto 72 dX9_piece_67 (by decide) ?_
          exact s57 M 5 x5 y6 (.inl ⟨rfl, rfl, rfl⟩) (by omega) (by unfold pcU; rw [if_neg (by omega), if_pos (by omega)]) hM
      · refine x_aload_n (q := 40) dX9_piece_39 rfl rfl ?_
        refine xn_iconst (q := 41) 5 dX9_piece_40 rfl (by decide) ?_
        refine xn_bipush (q := 43) 6 dX9_piece_41 rfl (by decide) ?_
        refine xn_iconst (q := 44) 1 dX9_piece_43 rfl (by decide) ?_
        refine xn_iconst (q := 45) 0 dX9_piece_44 rfl (by decide) ?_
        refine m_call (q := 48) (As := [_, _, _, _]) hM imX9_add ivX9_add ilX9_add mwX9_201 xciX9 dX9_piece_45 rfl rfl rfl (Nat.le_of_ble_eq_true rfl) ?_
        refine (c_add G l o as M0 N S (d + 2) 5 6 0 (by decide) (by decide) (by decide) (by decide) (by decide) σ x5 y6 1 _ h5 h6 (.inl rfl) rfl (B9up hx (by decide)) (B9up hy (by decide))).mono (fun x9 σ5 hp => ?_)
        obtain ⟨rfl, k5, r5⟩ := hp
        intro M hM
        show xX G l _ (d + 5) _ _ _ _ M N S
        rw [Int.one_mul] at r5
        refine x_aload_n (q := 49) dX9_piece_48 rfl rfl ?_
        refine xn_iconst (q := 50) 1 dX9_piece_49 rfl (by decide) ?_
        refine xn_lconst (q := 51) 1 dX9_piece_50 rfl (by decide) ?_
        refine m_call (q := 54) (As := [_, _]) hM imX9_put ivX9_put ilX9_put mwX9_121 xciX9 dX9_piece_51 rfl rfl rfl (Nat.le_of_ble_eq_true rfl) ?_
        refine (c_put G l o as M0 N S (d + 4) 1 (by decide) (lN 1) 1 rfl (by decide) σ5).mono (fun x9 σ6 hp => ?_)
        obtain ⟨rfl, k6, r6⟩ := hp
        intro M hM
        show xX G l _ (d + 5) _ _ _ _ M N S
        refine x_goto 91 dX9_piece_54 (by decide) ?_
        have hpc : pcU x5 y6 L = ((x5 + y6) * L, 1) := by unfold pcU; rw [if_pos (by omega)]
        exact s91 σ6 M (x5 + y6) [] (by omega) ((k5.s (by simp)).trans (k6.s (by simp))) (k6.reg (by decide) (k5.reg (by decide) h7)) (k6.reg (by decide) (k5.reg (by decide) h8)) (k6.reg (by decide) r5) (B9up (B9a hx hy) (by decide)) (by rw [hpc]) (by rw [hpc]; exact r6) hM
  · refine x_aload_n (q := 10) dX9_piece_9 rfl rfl ?_
    refine m_get (q := 13) hM 16 fwX9_47 (by decide) dX9_piece_10 rfl rfl ?_
    refine xn_bipush (q := 15) 6 dX9_piece_13 rfl (by decide) ?_
    refine m_iald (q := 16) hM (n := 16) (by decide) dX9_piece_15 rfl (by omega) ?_
    rw [g6]
    refine xi_if_gt (q := 19) 20 dX9_piece_16 (by decide) rfl rfl (by omega) (by omega) (fun hc16 => ?_) (fun hc16 => ?_)
    · refine x_aload_n (q := 21) dX9_piece_20 rfl rfl ?_
      refine m_get (q := 24) hM 16 fwX9_47 (by decide) dX9_piece_21 rfl rfl ?_
      refine xn_iconst (q := 25) 5 dX9_piece_24 rfl (by decide) ?_
      refine m_iald (q := 26) hM (n := 16) (by decide) dX9_piece_25 rfl (by omega) ?_
      rw [g5]
      refine xi_if_lt (q := 29) 57 dX9_piece_26 (by decide) rfl rfl (by omega) (by omega) (fun hc26 => ?_) (fun hc26 => ?_)
      · refine x_aload_n (q := 58) dX9_piece_57 rfl rfl ?_
        refine m_get (q := 61) hM 16 fwX9_47 (by decide) dX9_piece_58 rfl rfl ?_
        refine xn_iconst (q := 62) 5 dX9_piece_61 rfl (by decide) ?_
        refine m_iald (q := 63) hM (n := 16) (by decide) dX9_piece_62 rfl (by omega) ?_
        rw [g5]
        refine xi_if_le (q := 66) 70 dX9_piece_63 (by decide) rfl rfl (by omega) (by omega) (fun hc63 => ?_) (fun hc63 => ?_)
        · refine xn_bipush (q := 72) 6 dX9_piece_70 rfl (by decide) ?_
          exact s57 M 6 y6 x5 (.inr ⟨rfl, rfl, rfl⟩) (by omega) (by unfold pcU; rw [if_neg (by omega), if_neg (by omega)]) hM
        · refine xn_iconst (q := 67) 5 dX9_piece_66 rfl (by decide) ?_
          refine x_goto 72 dX9_piece_67 (by decide) ?_
          exact s57 M 5 x5 y6 (.inl ⟨rfl, rfl, rfl⟩) (by omega) (by unfold pcU; rw [if_neg (by omega), if_pos (by omega)]) hM
      · refine x_aload_n (q := 30) dX9_piece_29 rfl rfl ?_
        refine m_get (q := 33) hM 16 fwX9_47 (by decide) dX9_piece_30 rfl rfl ?_
        refine xn_bipush (q := 35) 6 dX9_piece_33 rfl (by decide) ?_
        refine m_iald (q := 36) hM (n := 16) (by decide) dX9_piece_35 rfl (by omega) ?_
        rw [g6]
        refine xi_if_lt (q := 39) 57 dX9_piece_36 (by decide) rfl rfl (by omega) (by omega) (fun hc36 => ?_) (fun hc36 => ?_)
        · refine x_aload_n (q := 58) dX9_piece_57 rfl rfl ?_
          refine m_get (q := 61) hM 16 fwX9_47 (by decide) dX9_piece_58 rfl rfl ?_
          refine xn_iconst (q := 62) 5 dX9_piece_61 rfl (by decide) ?_
          refine m_iald (q := 63) hM (n := 16) (by decide) dX9_piece_62 rfl (by omega) ?_
          rw [g5]
          refine xi_if_le (q := 66) 70 dX9_piece_63 (by decide) rfl rfl (by omega) (by omega) (fun hc63 => ?_) (fun hc63 => ?_)
          · refine xn_bipush (q := 72) 6 dX9_piece_70 rfl (by decide) ?_
            exact s57 M 6 y6 x5 (.inr ⟨rfl, rfl, rfl⟩) (by omega) (by unfold pcU; rw [if_neg (by omega), if_neg (by omega)]) hM
          · refine xn_iconst (q := 67) 5 dX9_piece_66 rfl (by decide) ?_
            refine x_goto 72 dX9_piece_67 (by decide) ?_
            exact s57 M 5 x5 y6 (.inl ⟨rfl, rfl, rfl⟩) (by omega) (by unfold pcU; rw [if_neg (by omega), if_pos (by omega)]) hM
        · refine x_aload_n (q := 40) dX9_piece_39 rfl rfl ?_
          refine xn_iconst (q := 41) 5 dX9_piece_40 rfl (by decide) ?_
          refine xn_bipush (q := 43) 6 dX9_piece_41 rfl (by decide) ?_
          refine xn_iconst (q := 44) 1 dX9_piece_43 rfl (by decide) ?_
          refine xn_iconst (q := 45) 0 dX9_piece_44 rfl (by decide) ?_
          refine m_call (q := 48) (As := [_, _, _, _]) hM imX9_add ivX9_add ilX9_add mwX9_201 xciX9 dX9_piece_45 rfl rfl rfl (Nat.le_of_ble_eq_true rfl) ?_
          refine (c_add G l o as M0 N S (d + 2) 5 6 0 (by decide) (by decide) (by decide) (by decide) (by decide) σ x5 y6 1 _ h5 h6 (.inl rfl) rfl (B9up hx (by decide)) (B9up hy (by decide))).mono (fun x9 σ5 hp => ?_)
          obtain ⟨rfl, k5, r5⟩ := hp
          intro M hM
          show xX G l _ (d + 5) _ _ _ _ M N S
          rw [Int.one_mul] at r5
          refine x_aload_n (q := 49) dX9_piece_48 rfl rfl ?_
          refine xn_iconst (q := 50) 1 dX9_piece_49 rfl (by decide) ?_
          refine xn_lconst (q := 51) 1 dX9_piece_50 rfl (by decide) ?_
          refine m_call (q := 54) (As := [_, _]) hM imX9_put ivX9_put ilX9_put mwX9_121 xciX9 dX9_piece_51 rfl rfl rfl (Nat.le_of_ble_eq_true rfl) ?_
          refine (c_put G l o as M0 N S (d + 4) 1 (by decide) (lN 1) 1 rfl (by decide) σ5).mono (fun x9 σ6 hp => ?_)
          obtain ⟨rfl, k6, r6⟩ := hp
          intro M hM
          show xX G l _ (d + 5) _ _ _ _ M N S
          refine x_goto 91 dX9_piece_54 (by decide) ?_
          have hpc : pcU x5 y6 L = ((x5 + y6) * L, 1) := by unfold pcU; rw [if_pos (by omega)]
          exact s91 σ6 M (x5 + y6) [] (by omega) ((k5.s (by simp)).trans (k6.s (by simp))) (k6.reg (by decide) (k5.reg (by decide) h7)) (k6.reg (by decide) (k5.reg (by decide) h8)) (k6.reg (by decide) r5) (B9up (B9a hx hy) (by decide)) (by rw [hpc]) (by rw [hpc]; exact r6) hM
    · exact x_vret rfl dX9_piece_19 (m_ret hM ⟨rfl, keeps.rfl', by rw [show pieceP p x5 y6 L = p from if_pos (by omega)]; exact h7, by rw [show pieceP p x5 y6 L = p from if_pos (by omega)]; exact h8⟩)
end XS1
