section XC1
theorem tri_inj {i j i' j' : Nat} (hi : i < 10) (hj : j ≤ i) (hi' : i' < 10) (hj' : j' ≤ i') (h : tri i j = tri i' j') : i = i' ∧ j = j' := by
  have hs : ∀ i, i < 10 → ∀ i', i' < 10 → i < i' → i * (i + 1) / 2 + i < i' * (i' + 1) / 2 := by decide
  unfold tri at h
  rcases Nat.lt_trichotomy i i' with e | e | e
  · have := hs i hi i' hi' e; omega
  · subst e; omega
  · have := hs i' hi' i hi e; omega
theorem tri_bg {i j : Nat} (hi : i < 10) (hj : j ≤ i) : isBg (100 + tri i j) := by have := tri_lt hi hj; unfold isBg; omega
/-- the frame's cells hold this matrix (below the diagonal) -/
def Cll (σ : cZ) (A : Nat → Nat → Int) : Prop := ∀ i j, i < 10 → j ≤ i → Bg σ (100 + tri i j) (A i j)
def m2 (A : Nat → Nat → Int) (i j : Nat) (v : Int) : Nat → Nat → Int := fun a b => if a = i ∧ b = j then v else A a b
theorem Cll.upd {σ σ' : cZ} {A : Nat → Nat → Int} {i j : Nat} {v : Int} (h : Cll σ A) (hi : i < 10) (hj : j ≤ i) (k : kp [100 + tri i j, 100 + tri i j + 100] σ σ') (hv : Bg σ' (100 + tri i j) v) : Cll σ' (m2 A i j v) := by
  intro a b ha hb
  unfold m2
  by_cases e : a = i ∧ b = j
  · rw [if_pos e, e.1, e.2]; exact hv
  · rw [if_neg e]
    have hne : tri a b ≠ tri i j := fun z => e (tri_inj ha hb hi hj z)
    have h1 := tri_lt ha hb
    have h2 := tri_lt hi hj
    exact k.bg (by simp; omega) (by simp; omega) (h a b ha hb)
theorem Cll.keep {ks : List Nat} {σ σ' : cZ} {A : Nat → Nat → Int} (h : Cll σ A) (k : kp ks σ σ') (hn : ∀ j, j ∈ ks → ¬ (100 ≤ j ∧ j < 155) ∧ ¬ (200 ≤ j ∧ j < 255)) : Cll σ' A := fun a b ha hb => by
  have h1 := tri_lt ha hb
  exact k.bg (fun z => (hn _ z).1 (by omega)) (fun z => (hn _ z).2 (by omega)) (h a b ha hb)
theorem Cll.congr {σ : cZ} {A B : Nat → Nat → Int} (h : Cll σ A) (he : ∀ i j, i < 10 → j ≤ i → A i j = B i j) : Cll σ B := fun a b ha hb => by rw [← he a b ha hb]; exact h a b ha hb
def cK : List Nat := 30 :: (List.range' 100 59 ++ List.range' 200 59)
theorem mem_cK {j : Nat} : j ∈ cK ↔ j = 30 ∨ (100 ≤ j ∧ j < 159) ∨ (200 ≤ j ∧ j < 259) := by
  unfold cK
  rw [List.mem_cons, List.mem_append, List.mem_range'_1, List.mem_range'_1]
theorem kp.cel {i j : Nat} {σ σ' : cZ} (h : kp [100 + tri i j, 100 + tri i j + 100] σ σ') (hi : i < 10) (hj : j ≤ i) : kp cK σ σ' := h.mono (fun a ha => by
  have := tri_lt hi hj
  rw [mem_cK]
  simp at ha
  omega)
theorem puS_bd {c : mCf} (hok : okL c) (n s : Nat) (hn : n ≤ 16 * c.m) : (puS c n s).natAbs ≤ n * 1000000000000 := by
  induction n with
  | zero => simp [puS]
  | succ n ih =>
    have h1 := ih (by omega)
    have h0 := hok.1
    have hE := (hok.2 (n / 16) (by omega)).2
    have hz := facZ_bd (n % 16) (by omega)
    have hs := scP_le hok h0
    have hr : rtP c (n / 16) ≤ 1728 := Nat.le_trans (Nat.div_le_self _ _) hs
    have hp : pwP c (n / 16) (n % 16 / 4) (n % 4) ≤ 5159780352 := by
      unfold pwP
      have q1 : (if n % 16 / 4 % 2 = 0 then rtP c (n / 16) else 1) ≤ 1728 := by split <;> omega
      have q2 : (if n % 4 % 2 = 0 then rtP c (n / 16) else 1) ≤ 1728 := by split <;> omega
      exact Nat.mul_le_mul (Nat.mul_le_mul hr q1) q2
    have hv : (facZ (n % 16) * (c.E (n / 16) : Int) * (pwP c (n / 16) (n % 16 / 4) (n % 4) : Int)).natAbs ≤ 743008370688 := by
      rw [Int.natAbs_mul, Int.natAbs_mul, Int.natAbs_natCast, Int.natAbs_natCast]
      have q3 : (facZ (n % 16)).natAbs ≤ 12 := by omega
      exact Nat.mul_le_mul (Nat.mul_le_mul q3 hE.2) hp
    show (addT (puS c n) _ _ s).natAbs ≤ _
    unfold addT
    split
    · have := Int.natAbs_add_le (puS c n s) (facZ (n % 16) * (c.E (n / 16) : Int) * (pwP c (n / 16) (n % 16 / 4) (n % 4) : Int))
      generalize facZ (n % 16) * (c.E (n / 16) : Int) * (pwP c (n / 16) (n % 16 / 4) (n % 4) : Int) = q at *
      omega
    · exact Nat.le_trans h1 (Nat.mul_le_mul_right _ (Nat.le_succ n))
theorem puP_bd {c : mCf} (hok : okL c) (s : Nat) : (puP c s).natAbs ≤ 48000000000000 := by
  have h1 := puS_bd hok (16 * c.m) s (Nat.le_refl _)
  have h2 := hok.1
  unfold puP
  generalize (puS c (16 * c.m) s).natAbs = a at *
  omega

set_option maxRecDepth 100000 in
set_option maxHeartbeats 4000000 in
theorem b_fillCells (G : xG) (l : Launch) (ad : Nat → Nat) (F : xM) (R : Nat × Nat) (d : Nat) (σ : cZ) (c : mCf) (hok : okL c) (hpu : ∀ s, s < 100 → (σ 32).2.1 s = iL (puP c s)) : cC G l ad F R YX4_fillCells (d + 2) [.ref (ad 4)] σ (fun r σ' => r = none ∧ kp cK σ σ' ∧ (∀ s, s < 10 → (σ' 30).1 s = bI false) ∧ Cll σ' (fun i j => puP c (i * 10 + j)) ∧ Bg σ' 155 1) := by
  have outer : ∀ (u i : Nat) (σ1 : cZ) (M : xM) (N S : Nat), i + u = 10 → kp cK σ σ1 → (∀ s, s < i → (σ1 30).1 s = bI false) → (∀ a b, a < 10 → b ≤ a → a < i → Bg σ1 (100 + tri a b) (puP c (a * 10 + b))) → cA G ad F R σ1 M N S → xX G l YX4_fillCells (d + 2) (cQ G ad F R (fun r σ' => r = none ∧ kp cK σ σ' ∧ (∀ s, s < 10 → (σ' 30).1 s = bI false) ∧ Cll σ' (fun i j => puP c (i * 10 + j)) ∧ Bg σ' 155 1)) 2 [(0, .ref (ad 4)), (1, .int (nI i))] [] M N S := by
    intro u
    induction u with
    | zero =>
      intro i σ1 M N S hi k1 k2 k3 hM

      refine x_iload_n (q := 3) dX4_fillCells_2 rfl rfl ?_
      refine xn_bipush (q := 5) 10 dX4_fillCells_3 rfl (by decide) ?_
      refine xn_icmp_ge (q := 8) 49 dX4_fillCells_5 (by decide) rfl (by omega) (by omega) (fun hc5 => ?_) (fun hc5 => absurd hc5 (by omega))
      refine x_aload_n (q := 50) dX4_fillCells_49 rfl rfl ?_
      refine c_get (q := 53) (k := 4) (f := 8) hM rfl xclX4 fwX4_41 (by decide) dX4_fillCells_50 rfl rfl ?_
      refine xn_lconst (q := 54) 1 dX4_fillCells_53 rfl (by decide) ?_
      refine x_topl (y := iL 1) rfl ?_
      refine c_call (q := 57) (k := 155) (As := [_]) hM (cE_big _ _ ⟨by decide, by decide⟩) imX2_takeLong ivX2_takeLong ilX2_takeLong mwX4_85 xciX2 dX4_fillCells_54 rfl rfl rfl (Nat.le_of_ble_eq_true rfl) ?_
      refine (b_takeLong G l ad F R (d + 0) σ1 155 ⟨by decide, by decide⟩ 1 (by decide)).mono (fun x9 σ54 hp => ?_)
      obtain ⟨rfl, q1, q2⟩ := hp
      intro M N S hM
      show xX G l _ (d + 2) _ _ _ _ M N S
      exact x_vret rfl dX4_fillCells_57 (c_ret hM ⟨rfl, k1.trans (q1.mono (fun a ha => by rw [mem_cK]; simp at ha; omega)), fun s hs => by rw [q1 30 (by decide)]; exact k2 s (by omega), fun a b ha hb => q1.bg (by have := tri_lt ha hb; simp; omega) (by have := tri_lt ha hb; simp; try omega) (k3 a b ha hb (by omega)), q2⟩)

    | succ u ih =>
      intro i σ0 M N S hi k1' k2' k3' hM
      have inner : ∀ (v j : Nat) (σ1 : cZ) (M : xM) (N S : Nat), j + v = i + 1 → kp cK σ σ1 → (∀ s, s < i + 1 → (σ1 30).1 s = bI false) → (∀ a b, a < 10 → b ≤ a → (a < i ∨ (a = i ∧ b < j)) → Bg σ1 (100 + tri a b) (puP c (a * 10 + b))) → cA G ad F R σ1 M N S → xX G l YX4_fillCells (d + 2) (cQ G ad F R (fun r σ' => r = none ∧ kp cK σ σ' ∧ (∀ s, s < 10 → (σ' 30).1 s = bI false) ∧ Cll σ' (fun i j => puP c (i * 10 + j)) ∧ Bg σ' 155 1)) 17 [(0, .ref (ad 4)), (1, .int (nI i)), (2, .int (nI j))] [] M N S := by
        intro v
        induction v with
        | zero =>
          intro j σ1 M N S hj k1 k2 k3 hM

          refine x_iload_n (q := 18) dX4_fillCells_17 rfl rfl ?_
          refine x_iload_n (q := 19) dX4_fillCells_18 rfl rfl ?_
          refine xn_icmp_gt (q := 22) 43 dX4_fillCells_19 (by decide) rfl (by omega) (by omega) (fun hc19 => ?_) (fun hc19 => absurd hc19 (by omega))
          refine xn_iinc (q := 46) (ls' := [(0, _), (1, _), (2, _)]) [1, 0, 2] 1 dX4_fillCells_43 rfl rfl (by decide) (by decide) rfl ?_
          refine x_goto 2 dX4_fillCells_46 (by decide) ?_
          refine x_ls (ls' := [(0, _), (1, _)]) [0, 1] rfl ?_
          exact ih (i + 1) σ1 M N S (by omega) k1 k2 (fun a b ha hb h => k3 a b ha hb (by omega)) hM

        | succ v ihv =>
          intro j σ1 M N S hj k1 k2 k3 hM
          have ht := tri_lt (i := i) (j := j) (by omega) (by omega)
          have hbg := tri_bg (i := i) (j := j) (by omega) (by omega)
          have e32 : σ1 32 = σ 32 := k1 32 (fun h => by rw [mem_cK] at h; omega)
          have hpb := puP_bd hok (i * 10 + j)

          refine x_iload_n (q := 18) dX4_fillCells_17 rfl rfl ?_
          refine x_iload_n (q := 19) dX4_fillCells_18 rfl rfl ?_
          refine xn_icmp_gt (q := 22) 43 dX4_fillCells_19 (by decide) rfl (by omega) (by omega) (fun hc19 => absurd hc19 (by omega)) (fun hc19 => ?_)
          refine x_aload_n (q := 23) dX4_fillCells_22 rfl rfl ?_
          refine x_iload_n (q := 24) dX4_fillCells_23 rfl rfl ?_
          refine x_iload_n (q := 25) dX4_fillCells_24 rfl rfl ?_
          refine c_call (q := 28) (k := 4) (As := [_, _]) hM rfl imX4_cellOf ivX4_cellOf ilX4_cellOf mwX4_89 xciX4 dX4_fillCells_25 rfl rfl rfl (Nat.le_of_ble_eq_true rfl) ?_
          refine (b_cellOf G l ad F R (d + 1) σ1 i j (by omega) (by omega)).mono (fun x9 σ9' hp => ?_)
          obtain ⟨rfl, e9⟩ := hp
          intro M N S hM
          rw [e9] at hM; clear e9 σ9'
          rw [show max i j = i by omega, show min i j = j by omega]
          show xX G l _ (d + 2) _ _ _ _ M N S
          refine x_aload_n (q := 29) dX4_fillCells_28 rfl rfl ?_
          refine x_iload_n (q := 30) dX4_fillCells_29 rfl rfl ?_
          refine x_iload_n (q := 31) dX4_fillCells_30 rfl rfl ?_
          refine c_call (q := 34) (k := 4) (As := [_, _]) hM rfl imX4_pullOf ivX4_pullOf ilX4_pullOf mwX4_131 xciX4 dX4_fillCells_31 rfl rfl rfl (Nat.le_of_ble_eq_true rfl) ?_
          refine (b_pullOf G l ad F R (d + 1) σ1 i j (by omega) (by omega)).mono (fun x9 σ9' hp => ?_)
          obtain ⟨rfl, e9⟩ := hp
          intro M N S hM
          rw [e9] at hM; clear e9 σ9'
          show xX G l _ (d + 2) _ _ _ _ M N S
          refine x_topl (y := iL (puP c (i * 10 + j))) (by rw [e32]; exact hpu _ (by omega)) ?_
          refine c_call (q := 37) (k := (100 + tri i j)) (As := [_]) hM (cE_big _ _ hbg) imX2_takeLong ivX2_takeLong ilX2_takeLong mwX4_85 xciX2 dX4_fillCells_34 rfl rfl rfl (Nat.le_of_ble_eq_true rfl) ?_
          refine (b_takeLong G l ad F R (d + 0) σ1 (100 + tri i j) hbg (puP c (i * 10 + j)) (by omega)).mono (fun x9 σ34 hp => ?_)
          obtain ⟨rfl, q1, q2⟩ := hp
          intro M N S hM
          show xX G l _ (d + 2) _ _ _ _ M N S
          refine xn_iinc (q := 40) (ls' := [(0, _), (1, _), (2, _)]) [1, 2, 0] 1 dX4_fillCells_37 rfl rfl (by decide) (by decide) rfl ?_
          refine x_goto 17 dX4_fillCells_40 (by decide) ?_
          refine ihv (j + 1) σ34 M N S (by omega) (k1.trans (q1.cel (by omega) (by omega))) (fun s hs => by rw [q1 30 (by simp; omega)]; exact k2 s hs) (fun a b ha hb h => ?_) hM
          by_cases e : a = i ∧ b = j
          · rw [e.1, e.2]; exact q2
          · have hne : tri a b ≠ tri i j := fun z => e (tri_inj ha hb (by omega) (by omega) z)
            have h1 := tri_lt ha hb
            exact q1.bg (by simp; omega) (by simp; omega) (k3 a b ha hb (by omega))

      refine x_iload_n (q := 3) dX4_fillCells_2 rfl rfl ?_
      refine xn_bipush (q := 5) 10 dX4_fillCells_3 rfl (by decide) ?_
      refine xn_icmp_ge (q := 8) 49 dX4_fillCells_5 (by decide) rfl (by omega) (by omega) (fun hc5 => absurd hc5 (by omega)) (fun hc5 => ?_)
      refine x_aload_n (q := 9) dX4_fillCells_8 rfl rfl ?_
      refine c_get (q := 12) (k := 4) (f := 4) hM rfl xclX4 fwX4_24 (by decide) dX4_fillCells_9 rfl rfl ?_
      refine x_iload_n (q := 13) dX4_fillCells_12 rfl rfl ?_
      refine xn_iconst (q := 14) 0 dX4_fillCells_13 rfl (by decide) ?_
      refine c_zast (q := 15) (k := 30) (n := 10) hM (by decide) (fun _ => rfl) (by decide) dX4_fillCells_14 rfl (by omega) (by decide) (fun M σ14 a14 e14 b14 hM => ?_)
      refine xn_iconst (q := 16) 0 dX4_fillCells_15 rfl (by decide) ?_
      refine x_istore_n (q := 17) (ls' := [(0, _), (1, _), (2, _)]) [1, 2, 0] dX4_fillCells_16 rfl (by decide) rfl ?_
      refine inner (i + 1) 0 σ14 M N S (by omega) (k1'.trans (a14.mono (fun j hj => by rw [mem_cK]; simp at hj; omega))) (fun s hs => ?_) (fun a b ha hb h => a14.bg (by have := tri_lt ha hb; simp; try omega) (by have := tri_lt ha hb; simp; try omega) (k3' a b ha hb (by omega))) hM
      rw [e14]
      by_cases es : s = i
      · rw [es]; simp only [upd, if_true]; rfl
      · simp only [upd, if_neg es]; exact k2' s (by omega)

  refine cC.of (ls := [(0, .ref (ad 4))]) (by decide) (Nat.le_of_ble_eq_true rfl) rfl fun M N S hM => ?_

  refine xn_iconst (q := 1) 0 dX4_fillCells_0 rfl (by decide) ?_
  refine x_istore_n (q := 2) (ls' := [(0, _), (1, _)]) [1, 0] dX4_fillCells_1 rfl (by decide) rfl ?_
  exact outer 10 0 σ M N S (by decide) kp.rfl' (fun s hs => absurd hs (Nat.not_lt_zero s)) (fun a b ha hb h => absurd h (Nat.not_lt_zero a)) hM

theorem B9s {u v : Int} {a : Nat} (hu : u.natAbs < B9 ^ a) (hv : v.natAbs < B9 ^ a) : (u - v).natAbs < B9 ^ (a + 1) := by
  have := B9a (u := u) (v := -v) hu (by rw [Int.natAbs_neg]; exact hv)
  rw [Int.sub_eq_add_neg]
  exact this

theorem sw_ne {q : Nat} (h : 100 ≤ q ∧ q < 155) : (q ∉ [157, 157 + 100] ∧ q + 100 ∉ [157, 157 + 100]) ∧ (q ∉ [158, 158 + 100] ∧ q + 100 ∉ [158, 158 + 100]) ∧ 157 ≠ q ∧ 158 ≠ q ∧ 155 ≠ q ∧ isBg q := by
  unfold isBg
  simp
  omega
theorem sw_k {t : Nat} {σ0 σ1 σ2 σ3 σ4 : cZ} (k1 : kp [157, 157 + 100] σ0 σ1) (k2 : kp [158, 158 + 100] σ1 σ2) (k3 : kp [157, 157 + 100] σ2 σ3) (k4 : kp [157, 157 + 100, t, t + 100] σ3 σ4) : kp [157, 257, 158, 258, t, t + 100] σ0 σ4 :=
  (k1.mono (by intro j hj; simp at hj ⊢; omega)).trans ((k2.mono (by intro j hj; simp at hj ⊢; omega)).trans ((k3.mono (by intro j hj; simp at hj ⊢; omega)).trans (k4.mono (by intro j hj; simp at hj ⊢; omega))))
theorem mul_m1 (a b : Int) : a + b * -1 = a - b := by omega

set_option maxRecDepth 100000 in
set_option maxHeartbeats 4000000 in
theorem b_sweepCell (G : xG) (l : Launch) (ad : Nat → Nat) (F : xM) (R : Nat × Nat) (d : Nat) (σ : cZ) (t q r : Nat) (ht : 100 ≤ t ∧ t < 155) (hq : 100 ≤ q ∧ q < 155) (hr : 100 ≤ r ∧ r < 155) (x p u v y : Int) (hx : Bg σ t x) (hp : Bg σ 156 p) (hu : Bg σ q u) (hv : Bg σ r v) (hy : Bg σ 155 y) (bx : x.natAbs < B9 ^ 100) (bp : p.natAbs < B9 ^ 100) (bu : u.natAbs < B9 ^ 100) (bv : v.natAbs < B9 ^ 100) : cC G l ad F R YX4_sweepCell (d + 4) [.ref (ad 4), .ref (ad t), .ref (ad q), .ref (ad r)] σ (fun r σ' => r = none ∧ kp [157, 257, 158, 258, t, t + 100] σ σ' ∧ Bg σ' t ((x * p - u * v).tdiv y)) := by
  obtain ⟨-, -, t1, t2, t3, tb⟩ := sw_ne ht
  obtain ⟨⟨q1, q2⟩, -, q3, q4, -, qb⟩ := sw_ne hq
  obtain ⟨⟨r1, r2⟩, -, r3, r4, -, rb⟩ := sw_ne hr
  have b3 : (x * p).natAbs < B9 ^ 1000 := B9up (B9m bx bp) (show 100 + 100 ≤ 1000 by decide)
  have b4 : (u * v).natAbs < B9 ^ 1000 := B9up (B9m bu bv) (show 100 + 100 ≤ 1000 by decide)
  have b5 : (x * p - u * v).natAbs < B9 ^ 1000 := B9up (B9s (B9m bx bp) (B9m bu bv)) (show 100 + 100 + 1 ≤ 1000 by decide)
  refine cC.of (ls := [(0, .ref (ad 4)), (1, .ref (ad t)), (2, .ref (ad q)), (3, .ref (ad r))]) (by decide) (Nat.le_of_ble_eq_true rfl) rfl fun M N S hM => ?_

  refine x_aload_n (q := 1) dX4_sweepCell_0 rfl rfl ?_
  refine c_get (q := 4) (k := 4) (f := 10) hM rfl xclX4 fwX4_48 (by decide) dX4_sweepCell_1 rfl rfl ?_
  refine x_aload_n (q := 5) dX4_sweepCell_4 rfl rfl ?_
  refine x_aload_n (q := 6) dX4_sweepCell_5 rfl rfl ?_
  refine c_get (q := 9) (k := 4) (f := 9) hM rfl xclX4 fwX4_45 (by decide) dX4_sweepCell_6 rfl rfl ?_
  refine c_call (q := 12) (k := 157) (As := [_, _]) hM (cE_big _ _ ⟨by decide, by decide⟩) imX2_product ivX2_product ilX2_product mwX4_148 xciX2 dX4_sweepCell_9 rfl rfl rfl (Nat.le_of_ble_eq_true rfl) ?_
  refine (b_product G l ad F R d σ 157 t 156 ⟨by decide, by decide⟩ tb ⟨by decide, by decide⟩ t1 (by decide) x p hx hp 100 100 (by decide) bx bp).mono (fun x9 σ9 hp => ?_)
  obtain ⟨rfl, k9, r9⟩ := hp
  intro M N S hM
  show xX G l _ (d + 4) _ _ _ _ M N S
  refine x_aload_n (q := 13) dX4_sweepCell_12 rfl rfl ?_
  refine c_get (q := 16) (k := 4) (f := 11) hM rfl xclX4 fwX4_51 (by decide) dX4_sweepCell_13 rfl rfl ?_
  refine x_aload_n (q := 17) dX4_sweepCell_16 rfl rfl ?_
  refine x_aload_n (q := 18) dX4_sweepCell_17 rfl rfl ?_
  refine c_call (q := 21) (k := 158) (As := [_, _]) hM (cE_big _ _ ⟨by decide, by decide⟩) imX2_product ivX2_product ilX2_product mwX4_148 xciX2 dX4_sweepCell_18 rfl rfl rfl (Nat.le_of_ble_eq_true rfl) ?_
  refine (b_product G l ad F R d σ9 158 q r ⟨by decide, by decide⟩ qb rb q4 r4 u v (k9.bg q1 q2 hu) (k9.bg r1 r2 hv) 100 100 (by decide) bu bv).mono (fun x9 σ18 hp => ?_)
  obtain ⟨rfl, k18, r18⟩ := hp
  intro M N S hM
  show xX G l _ (d + 4) _ _ _ _ M N S
  refine x_aload_n (q := 22) dX4_sweepCell_21 rfl rfl ?_
  refine c_get (q := 25) (k := 4) (f := 10) hM rfl xclX4 fwX4_48 (by decide) dX4_sweepCell_22 rfl rfl ?_
  refine x_aload_n (q := 26) dX4_sweepCell_25 rfl rfl ?_
  refine c_get (q := 29) (k := 4) (f := 11) hM rfl xclX4 fwX4_51 (by decide) dX4_sweepCell_26 rfl rfl ?_
  refine x_ldc2 (q := 32) (-1) dX4_sweepCell_29 rfl cwX4_146 ?_
  refine x_topl (y := iL (-1)) (by decide) ?_
  refine c_call (q := 35) (k := 157) (As := [_, _]) hM (cE_big _ _ ⟨by decide, by decide⟩) imX2_addTimes ivX2_addTimes ilX2_addTimes mwX4_93 xciX2 dX4_sweepCell_32 rfl rfl rfl (Nat.le_of_ble_eq_true rfl) ?_
  refine (b_addTimes G l ad F R d σ18 157 158 ⟨by decide, by decide⟩ ⟨by decide, by decide⟩ (by decide) (x * p) (u * v) (-1) (k18.bg (by decide) (by decide) r9) r18 (by decide) b3 b4).mono (fun x9 σ32 hp => ?_)
  obtain ⟨rfl, k32, r32⟩ := hp
  intro M N S hM
  show xX G l _ (d + 4) _ _ _ _ M N S
  rw [mul_m1] at r32
  refine x_aload_n (q := 36) dX4_sweepCell_35 rfl rfl ?_
  refine c_get (q := 39) (k := 4) (f := 10) hM rfl xclX4 fwX4_48 (by decide) dX4_sweepCell_36 rfl rfl ?_
  refine x_aload_n (q := 40) dX4_sweepCell_39 rfl rfl ?_
  refine c_get (q := 43) (k := 4) (f := 8) hM rfl xclX4 fwX4_41 (by decide) dX4_sweepCell_40 rfl rfl ?_
  refine x_aload_n (q := 44) dX4_sweepCell_43 rfl rfl ?_
  refine c_call (q := 47) (k := 157) (As := [_, _]) hM (cE_big _ _ ⟨by decide, by decide⟩) imX2_split ivX2_split ilX2_split mwX4_152 xciX2 dX4_sweepCell_44 rfl rfl rfl (Nat.le_of_ble_eq_true rfl) ?_
  have y32 : Bg σ32 155 y := k32.bg (by decide) (by decide) (k18.bg (by decide) (by decide) (k9.bg (by decide) (by decide) hy))
  refine (b_split G l ad F R d σ32 157 155 t ⟨by decide, by decide⟩ ⟨by decide, by decide⟩ tb (by decide) t1 t3 (x * p - u * v) y r32 y32 b5).mono (fun x9 σ44 hp => ?_)
  obtain ⟨rfl, k44, r44, s44⟩ := hp
  intro M N S hM
  show xX G l _ (d + 4) _ _ _ _ M N S
  exact x_vret rfl dX4_sweepCell_47 (c_ret hM ⟨rfl, sw_k k9 k18 k32 k44, s44⟩)

end XC1
