section XJ
/-- cells and these registers alone have changed -/
def kc (L : List Nat) (σ σ' : mS) : Prop := σ'.1 = σ.1 ∧ σ'.2.2 = σ.2.2 ∧ (∀ k, k ≠ 14 → k ≠ 15 → k ≠ 16 → k ≠ 17 → k ≠ 18 → k ≠ 19 → σ'.2.1 k = σ.2.1 k) ∧ ∀ r, r ∉ L → σ'.2.1 15 r = σ.2.1 15 r ∧ σ'.2.1 16 r = σ.2.1 16 r ∧ ∀ j, j < 400 → σ'.2.1 14 (400 * r + j) = σ.2.1 14 (400 * r + j)
theorem kc.rfl' {L : List Nat} {σ : mS} : kc L σ σ := ⟨rfl, rfl, fun _ _ _ _ _ _ _ => rfl, fun _ _ => ⟨rfl, rfl, fun _ _ => rfl⟩⟩
theorem kc.trans {L : List Nat} {σ σ' σ'' : mS} (h : kc L σ σ') (h2 : kc L σ' σ'') : kc L σ σ'' :=
  ⟨h2.1.trans h.1, h2.2.1.trans h.2.1, fun k a b c d e f => (h2.2.2.1 k a b c d e f).trans (h.2.2.1 k a b c d e f), fun r hr => ⟨(h2.2.2.2 r hr).1.trans (h.2.2.2 r hr).1, (h2.2.2.2 r hr).2.1.trans (h.2.2.2 r hr).2.1, fun j hj => ((h2.2.2.2 r hr).2.2 j hj).trans ((h.2.2.2 r hr).2.2 j hj)⟩⟩
theorem kc.mono {L L' : List Nat} {σ σ' : mS} (h : kc L σ σ') (hl : ∀ r ∈ L, r ∈ L') : kc L' σ σ' := ⟨h.1, h.2.1, h.2.2.1, fun r hr => h.2.2.2 r (fun e => hr (hl r e))⟩
theorem kc.reg {L : List Nat} {r : Nat} {σ σ' : mS} {v : Int} (h : kc L σ σ') (hr : r ∉ L) (hv : Reg σ r v) : Reg σ' r v := by
  obtain ⟨n, h1, h2, h3, h4, h5⟩ := hv
  obtain ⟨e1, e2, e3⟩ := h.2.2.2 r hr
  exact ⟨n, h1, h2, e1.trans h3, e2.trans h4, fun j hj => (e3 j (by omega)).trans (h5 j hj)⟩
theorem kc.os {L : List Nat} {σ σ' : mS} (h : kc L σ σ') : onlyS σ σ' := ⟨fun k _ => by rw [h.1], h.2.2.1, fun k _ => by rw [h.2.1]⟩
theorem keeps.kc {L : List Nat} {σ σ' : mS} (h : keeps L σ σ') : kc L σ σ' := ⟨h.1, h.2.1, fun k a b c _ _ _ => h.2.2.1 k a b c, h.2.2.2⟩
theorem keep.kc {b : Nat} {L : List Nat} {σ σ' : mS} (h : keep b σ σ') (hb : b ∈ L) : kc L σ σ' := (h.s hb).kc
theorem keepc.kc {b : Nat} {L : List Nat} {σ σ' : mS} (h : keepc b σ σ') : kc L σ σ' := ⟨h.1, h.2.1, fun k _ _ _ a b c => h.2.2.1 k a b c, fun r _ => ⟨by rw [h.2.2.1 15 (by decide) (by decide) (by decide)], by rw [h.2.2.1 16 (by decide) (by decide) (by decide)], fun j _ => by rw [h.2.2.1 14 (by decide) (by decide) (by decide)]⟩⟩
/-- the cells hold this matrix -/
def Mat (σ : mS) (A : Nat → Nat → Int) : Prop := ∀ i j, i < 12 → j < 28 → Cel σ (28 * i + j) (A i j)
theorem Num.eq {i0 i1 i2 w : Nat} {σ σ' : mS} {r : Nat} {v : Int} (h : Num i0 i1 i2 w σ r v) (h0 : σ'.2.1 i0 = σ.2.1 i0) (h1 : σ'.2.1 i1 = σ.2.1 i1) (h2 : σ'.2.1 i2 = σ.2.1 i2) : Num i0 i1 i2 w σ' r v := by
  obtain ⟨n, a1, a2, a3, a4, a5⟩ := h
  exact ⟨n, a1, a2, by rw [h1]; exact a3, by rw [h2]; exact a4, fun j hj => by rw [h0]; exact a5 j hj⟩
theorem keeps.cel {L : List Nat} {σ σ' : mS} {c : Nat} {v : Int} (h : keeps L σ σ') (hv : Cel σ c v) : Cel σ' c v := hv.eq (h.2.2.1 17 (by decide) (by decide) (by decide)) (h.2.2.1 18 (by decide) (by decide) (by decide)) (h.2.2.1 19 (by decide) (by decide) (by decide))
theorem keep.cel {b : Nat} {σ σ' : mS} {c : Nat} {v : Int} (h : keep b σ σ') (hv : Cel σ c v) : Cel σ' c v := hv.eq (h.2.2.1 17 (by decide) (by decide) (by decide)) (h.2.2.1 18 (by decide) (by decide) (by decide)) (h.2.2.1 19 (by decide) (by decide) (by decide))
theorem keep.mat {b : Nat} {σ σ' : mS} {A : Nat → Nat → Int} (h : keep b σ σ') (hv : Mat σ A) : Mat σ' A := fun i j hi hj => h.cel (hv i j hi hj)
theorem keeps.mat {L : List Nat} {σ σ' : mS} {A : Nat → Nat → Int} (h : keeps L σ σ') (hv : Mat σ A) : Mat σ' A := fun i j hi hj => h.cel (hv i j hi hj)
theorem Mat.put {σ σ' : mS} {A B : Nat → Nat → Int} {i j : Nat} (h : Mat σ A) (hk : keepc (28 * i + j) σ σ') (hj : j < 28) (hv : Cel σ' (28 * i + j) (B i j)) (ho : ∀ i' j', i' < 12 → j' < 28 → (i' ≠ i ∨ j' ≠ j) → B i' j' = A i' j') : Mat σ' B := fun i' j' hi' hj' => by
  by_cases e : i' = i ∧ j' = j
  · rw [e.1, e.2]; exact hv
  · have hne : 28 * i' + j' ≠ 28 * i + j := by omega
    rw [ho i' j' hi' hj' (by omega)]
    exact hk.num hne (h i' j' hi' hj')
def swM (A : Nat → Nat → Int) (a b : Nat) : Nat → Nat → Int := fun i j => if i = a then A b j else if i = b then A a j else A i j
def swJ (A : Nat → Nat → Int) (a b t : Nat) : Nat → Nat → Int := fun i j => if j < t then swM A a b i j else A i j
def lesP (A : Nat → Nat → Int) (i k : Nat) (p : Int) (j : Nat) : Int := (A k k * A i j - A i k * A k j).tdiv p
def lesJ (A : Nat → Nat → Int) (i k : Nat) (p : Int) (w t : Nat) : Nat → Nat → Int := fun i' j => if i' = i ∧ t < j ∧ j ≤ w then lesP A i k p j else A i' j
theorem tdiv_sign (x p : Int) (hp : p ≠ 0) : (x.tdiv p).natAbs = x.natAbs / p.natAbs ∧ ((x.tdiv p) ≠ 0 → sg (x.tdiv p) = sg x * sg p) := by
  have h1 : (x.tdiv p).natAbs = x.natAbs / p.natAbs := Int.natAbs_tdiv x p
  refine ⟨h1, fun h0 => ?_⟩
  rw [sg_mul]
  have hx : x ≠ 0 := fun e => h0 (by rw [e, Int.zero_tdiv])
  have hxp : x * p ≠ 0 := Int.mul_ne_zero hx hp
  rcases Int.lt_trichotomy x 0 with e | e | e
  · rcases Int.lt_trichotomy p 0 with f | f | f
    · have h3 : 0 ≤ x.tdiv p := Int.tdiv_nonneg_of_nonpos_of_nonpos (by omega) (by omega)
      rw [sg_pos (by omega), sg_pos (Int.mul_pos_of_neg_of_neg e f)]
    · exact absurd f hp
    · have h3 : x.tdiv p ≤ 0 := by
        rw [← Int.neg_neg x, Int.neg_tdiv]
        have := Int.tdiv_nonneg (a := -x) (b := p) (by omega) (by omega)
        omega
      rw [sg_neg (by omega), sg_neg (Int.mul_neg_of_neg_of_pos e f)]
  · exact absurd e hx
  · rcases Int.lt_trichotomy p 0 with f | f | f
    · have h3 : x.tdiv p ≤ 0 := by
        rw [← Int.neg_neg p, Int.tdiv_neg]
        have := Int.tdiv_nonneg (a := x) (b := -p) (by omega) (by omega)
        omega
      rw [sg_neg (by omega), sg_neg (Int.mul_neg_of_pos_of_neg e f)]
    · exact absurd f hp
    · have h3 : 0 ≤ x.tdiv p := Int.tdiv_nonneg (by omega) (by omega)
      rw [sg_pos (by omega), sg_pos (Int.mul_pos e f)]
theorem mul_w {x y : Int} {m n : Nat} (hx : x.natAbs < B9 ^ m) (hy : y.natAbs < B9 ^ n) : (x * y).natAbs < B9 ^ (m + n) := by
  rw [Int.natAbs_mul, Nat.pow_add]; exact Nat.mul_lt_mul'' hx hy
theorem sub_w {x y : Int} {n : Nat} (hx : x.natAbs < B9 ^ n) (hy : y.natAbs < B9 ^ n) : (x + -1 * y).natAbs < B9 ^ (n + 1) := by
  have h1 : (x + -1 * y).natAbs ≤ x.natAbs + y.natAbs := by omega
  rw [B9_succ]
  have : B9 ^ n * 2 ≤ B9 ^ n * B9 := Nat.mul_le_mul_left _ (by decide)
  omega
set_option maxRecDepth 100000 in
set_option maxHeartbeats 4000000 in
theorem c_swap_loop (G : xG) (l : Launch) (o : Nat) (as : Nat → Nat) (M0 : xM) (N S : Nat) (d : Nat) (a b : Nat) (ha : a < 12) (hb : b < 12) (hab : a ≠ b) (σ : mS) (A : Nat → Nat → Int) (Q : xPost)
    (hx : ∀ σ' M, kc [0, 1] σ σ' → Mat σ' (swM A a b) → mAt o as σ' M0 M → xX G l YX9_swap (d + 1) Q 58 [(0, .ref o), (1, .int (nI a)), (2, .int (nI b)), (3, .int (nI 28))] [] M N S) :
    ∀ (u t : Nat), t + u = 28 → ∀ σ' M, kc [0, 1] σ σ' → Mat σ' (swJ A a b t) → mAt o as σ' M0 M → xX G l YX9_swap (d + 1) Q 2 [(0, .ref o), (1, .int (nI a)), (2, .int (nI b)), (3, .int (nI t))] [] M N S := by
  intro u
  induction u with
  | zero =>
    intro t ht σ' M hk hm hM
    obtain rfl : t = 28 := by omega
    refine x_iload_n (q := 3) dX9_swap_2 rfl rfl ?_
    refine xn_bipush (q := 5) 28 dX9_swap_3 rfl (by decide) ?_
    refine xn_icmp_ge (q := 8) 58 dX9_swap_5 (by decide) rfl (by omega) (by omega) (fun hc5 => ?_) (fun hc5 => absurd hc5 (by omega))
    exact hx σ' M hk (fun i j hi hj => by have := hm i j hi hj; unfold swJ at this; rw [if_pos hj] at this; exact this) hM
  | succ u ih =>
    intro t ht σ' M hk hm hM
    have hA : swJ A a b t a t = A a t := by unfold swJ; rw [if_neg (by omega)]
    have hB : swJ A a b t b t = A b t := by unfold swJ; rw [if_neg (by omega)]
    have ca : Cel σ' (28 * a + t) (A a t) := by rw [← hA]; exact hm a t ha (by omega)
    have cb : Cel σ' (28 * b + t) (A b t) := by rw [← hB]; exact hm b t hb (by omega)
    refine x_iload_n (q := 3) dX9_swap_2 rfl rfl ?_
    refine xn_bipush (q := 5) 28 dX9_swap_3 rfl (by decide) ?_
    refine xn_icmp_ge (q := 8) 58 dX9_swap_5 (by decide) rfl (by omega) (by omega) (fun hc5 => absurd hc5 (by omega)) (fun hc5 => ?_)
    refine x_aload_n (q := 9) dX9_swap_8 rfl rfl ?_
    refine xn_bipush (q := 11) 28 dX9_swap_9 rfl (by decide) ?_
    refine x_iload_n (q := 12) dX9_swap_11 rfl rfl ?_
    refine xn_imul (q := 13) dX9_swap_12 rfl ?_
    refine x_iload_n (q := 14) dX9_swap_13 rfl rfl ?_
    refine xn_iadd (q := 15) dX9_swap_14 rfl ?_
    refine xn_iconst (q := 16) 0 dX9_swap_15 rfl (by decide) ?_
    refine m_call (q := 19) (As := [_, _]) hM imX9_load ivX9_load ilX9_load mwX9_195 xciX9 dX9_swap_16 rfl rfl rfl (Nat.le_of_ble_eq_true rfl) ?_
    refine (c_load G l o as M0 N S d (28 * a + t) 0 (by omega) (by decide) σ' _ ca).mono (fun x σ9 hp => ?_)
    obtain ⟨rfl, k9, r9⟩ := hp
    intro M hM
    show xX G l _ (d + 1) _ _ _ [] M N S
    refine x_aload_n (q := 20) dX9_swap_19 rfl rfl ?_
    refine xn_bipush (q := 22) 28 dX9_swap_20 rfl (by decide) ?_
    refine x_iload_n (q := 23) dX9_swap_22 rfl rfl ?_
    refine xn_imul (q := 24) dX9_swap_23 rfl ?_
    refine x_iload_n (q := 25) dX9_swap_24 rfl rfl ?_
    refine xn_iadd (q := 26) dX9_swap_25 rfl ?_
    refine xn_iconst (q := 27) 1 dX9_swap_26 rfl (by decide) ?_
    refine m_call (q := 30) (As := [_, _]) hM imX9_load ivX9_load ilX9_load mwX9_195 xciX9 dX9_swap_27 rfl rfl rfl (Nat.le_of_ble_eq_true rfl) ?_
    refine (c_load G l o as M0 N S d (28 * b + t) 1 (by omega) (by decide) σ9 _ (k9.cel cb)).mono (fun x σ19 hp => ?_)
    obtain ⟨rfl, k19, r19⟩ := hp
    intro M hM
    show xX G l _ (d + 1) _ _ _ [] M N S
    refine x_aload_n (q := 31) dX9_swap_30 rfl rfl ?_
    refine xn_iconst (q := 32) 0 dX9_swap_31 rfl (by decide) ?_
    refine xn_bipush (q := 34) 28 dX9_swap_32 rfl (by decide) ?_
    refine x_iload_n (q := 35) dX9_swap_34 rfl rfl ?_
    refine xn_imul (q := 36) dX9_swap_35 rfl ?_
    refine x_iload_n (q := 37) dX9_swap_36 rfl rfl ?_
    refine xn_iadd (q := 38) dX9_swap_37 rfl ?_
    refine m_call (q := 41) (As := [_, _]) hM imX9_store ivX9_store ilX9_store mwX9_192 xciX9 dX9_swap_38 rfl rfl rfl (Nat.le_of_ble_eq_true rfl) ?_
    refine (c_store G l o as M0 N S d 0 (28 * b + t) (by decide) (by omega) σ19 _ (k19.reg (by decide) r9) ca.w).mono (fun x σ29 hp => ?_)
    obtain ⟨rfl, k29, r29⟩ := hp
    intro M hM
    show xX G l _ (d + 1) _ _ _ [] M N S
    refine x_aload_n (q := 42) dX9_swap_41 rfl rfl ?_
    refine xn_iconst (q := 43) 1 dX9_swap_42 rfl (by decide) ?_
    refine xn_bipush (q := 45) 28 dX9_swap_43 rfl (by decide) ?_
    refine x_iload_n (q := 46) dX9_swap_45 rfl rfl ?_
    refine xn_imul (q := 47) dX9_swap_46 rfl ?_
    refine x_iload_n (q := 48) dX9_swap_47 rfl rfl ?_
    refine xn_iadd (q := 49) dX9_swap_48 rfl ?_
    refine m_call (q := 52) (As := [_, _]) hM imX9_store ivX9_store ilX9_store mwX9_192 xciX9 dX9_swap_49 rfl rfl rfl (Nat.le_of_ble_eq_true rfl) ?_
    refine (c_store G l o as M0 N S d 1 (28 * a + t) (by decide) (by omega) σ29 _ (kc.reg (L := []) (keepc.kc k29) (by simp) r19) cb.w).mono (fun x σ39 hp => ?_)
    obtain ⟨rfl, k39, r39⟩ := hp
    intro M hM
    show xX G l _ (d + 1) _ _ _ [] M N S
    refine xn_iinc (q := 55) (ls' := [(0, _), (1, _), (2, _), (3, _)]) [1, 2, 3, 0] 1 dX9_swap_52 rfl rfl (by decide) (by decide) rfl ?_
    refine x_goto 2 dX9_swap_55 (by decide) ?_
    have m29 : Mat σ29 (fun i j => if i = b ∧ j = t then A a t else swJ A a b t i j) := Mat.put (B := fun i j => if i = b ∧ j = t then A a t else swJ A a b t i j) (k19.mat (k9.mat hm)) k29 (by omega) (by simp only [and_self, if_true, reduceIte]; exact r29) (fun i' j' _ _ h => if_neg (by omega))
    have m39 : Mat σ39 (swJ A a b (t + 1)) := Mat.put m29 k39 (by omega) (by unfold swJ swM; rw [if_pos (by omega), if_pos rfl]; exact r39) (fun i' j' _ _ h => ?_)
    · exact ih (t + 1) (by omega) σ39 M (hk.trans ((((k9.kc (by simp)).trans (k19.kc (by simp))).trans (keepc.kc k29)).trans (keepc.kc k39))) m39 hM
    · unfold swJ swM
      by_cases e1 : j' = t
      · subst e1
        by_cases e2 : i' = b
        · subst e2; rw [if_pos (by omega), if_neg (Ne.symm hab), if_pos rfl, if_pos ⟨rfl, rfl⟩]
        · rw [if_pos (by omega), if_neg (by omega), if_neg e2, if_neg (by omega), if_neg (by omega)]
      · rw [if_neg (show ¬ (i' = b ∧ j' = t) by omega)]
        by_cases e3 : j' < t
        · rw [if_pos (by omega), if_pos e3]
        · rw [if_neg (by omega), if_neg e3]
set_option maxRecDepth 100000 in
set_option maxHeartbeats 4000000 in
theorem c_swap (G : xG) (l : Launch) (o : Nat) (as : Nat → Nat) (M0 : xM) (N S : Nat) (d : Nat) (a b : Nat) (ha : a < 12) (hb : b < 12) (hab : a ≠ b) (σ : mS) (A : Nat → Nat → Int) (hA : Mat σ A) : mC G l o as M0 N S YX9_swap (d + 1) [.int (nI a), .int (nI b)] σ (fun x σ' => x = none ∧ kc [0, 1] σ σ' ∧ Mat σ' (swM A a b)) := by
  refine mC.of (ls := [(0, .ref o), (1, .int (nI a)), (2, .int (nI b))]) (by decide) (Nat.le_of_ble_eq_true rfl) rfl fun M hM => ?_
  refine xn_iconst (q := 1) 0 dX9_swap_0 rfl (by decide) ?_
  refine x_istore_n (q := 2) (ls' := [(0, _), (1, _), (2, _), (3, _)]) [1, 2, 3, 0] dX9_swap_1 rfl (by decide) rfl ?_
  refine c_swap_loop G l o as M0 N S d a b ha hb hab σ A _ (fun σ' M hk hm hM => ?_) 28 0 (Nat.zero_add _) σ M kc.rfl' (fun i j hi hj => by unfold swJ; rw [if_neg (Nat.not_lt_zero j)]; exact hA i j hi hj) hM
  exact x_vret rfl dX9_swap_58 (m_ret hM ⟨rfl, hk, hm⟩)
set_option maxRecDepth 100000 in
set_option maxHeartbeats 4000000 in
theorem c_lessen_loop (G : xG) (l : Launch) (o : Nat) (as : Nat → Nat) (M0 : xM) (N S : Nat) (d : Nat) (i k w : Nat) (hi : i < 12) (hk : k < 12) (hik : i ≠ k) (hw : w < 28) (σ : mS) (A : Nat → Nat → Int) (p : Int) (hp : Reg σ 9 p) (hp0 : p ≠ 0) (hpw : p.natAbs < B9 ^ 24) (hbd : ∀ j, k < j → j ≤ w → (lesP A i k p j).natAbs < B9 ^ 24) (Q : xPost)
    (hx : ∀ σ' M, kc [0, 1, 2, 3, 4, 5, 6, 15] σ σ' → Mat σ' (lesJ A i k p w k) → mAt o as σ' M0 M → xX G l YX9_lessen (d + 3) Q 150 [(0, .ref o), (1, .int (nI i)), (2, .int (nI k)), (3, .int (nI k))] [] M N S) :
    ∀ (u : Nat), k + u ≤ w → ∀ σ' M, kc [0, 1, 2, 3, 4, 5, 6, 15] σ σ' → Mat σ' (lesJ A i k p w (k + u)) → mAt o as σ' M0 M → xX G l YX9_lessen (d + 3) Q 8 [(0, .ref o), (1, .int (nI i)), (2, .int (nI k)), (3, .int (nI (k + u)))] [] M N S := by
  intro u
  induction u with
  | zero =>
    intro htw σ' M hkc hm hM
    refine x_iload_n (q := 9) dX9_lessen_8 rfl rfl ?_
    refine x_iload_n (q := 10) dX9_lessen_9 rfl rfl ?_
    refine xn_icmp_le (q := 13) 150 dX9_lessen_10 (by decide) rfl (by omega) (by omega) (fun hc10 => ?_) (fun hc10 => absurd hc10 (by omega))
    exact hx σ' M hkc hm hM
  | succ u ih =>
    intro htw σ' M hkc hm hM
    have e1 : lesJ A i k p w (k + (u + 1)) k k = A k k := if_neg (by omega)
    have e2 : lesJ A i k p w (k + (u + 1)) i (k + (u + 1)) = A i (k + (u + 1)) := if_neg (by omega)
    have e3 : lesJ A i k p w (k + (u + 1)) i k = A i k := if_neg (by omega)
    have e4 : lesJ A i k p w (k + (u + 1)) k (k + (u + 1)) = A k (k + (u + 1)) := if_neg (by omega)
    have c1 : Cel σ' (28 * k + k) (A k k) := by rw [← e1]; exact hm k k hk (by omega)
    have c2 : Cel σ' (28 * i + (k + (u + 1))) (A i (k + (u + 1))) := by rw [← e2]; exact hm i _ hi (by omega)
    have c3 : Cel σ' (28 * i + k) (A i k) := by rw [← e3]; exact hm i k hi (by omega)
    have c4 : Cel σ' (28 * k + (k + (u + 1))) (A k (k + (u + 1))) := by rw [← e4]; exact hm k _ hk (by omega)
    have hpr : Reg σ' 9 p := hkc.reg (by decide) hp
    have hb0 := hbd (k + (u + 1)) (by omega) htw
    refine x_iload_n (q := 9) dX9_lessen_8 rfl rfl ?_
    refine x_iload_n (q := 10) dX9_lessen_9 rfl rfl ?_
    refine xn_icmp_le (q := 13) 150 dX9_lessen_10 (by decide) rfl (by omega) (by omega) (fun hc10 => absurd hc10 (by omega)) (fun hc10 => ?_)
    refine x_aload_n (q := 14) dX9_lessen_13 rfl rfl ?_
    refine xn_bipush (q := 16) 28 dX9_lessen_14 rfl (by decide) ?_
    refine x_iload_n (q := 17) dX9_lessen_16 rfl rfl ?_
    refine xn_imul (q := 18) dX9_lessen_17 rfl ?_
    refine x_iload_n (q := 19) dX9_lessen_18 rfl rfl ?_
    refine xn_iadd (q := 20) dX9_lessen_19 rfl ?_
    refine xn_iconst (q := 21) 0 dX9_lessen_20 rfl (by decide) ?_
    refine m_call (q := 24) (As := [_, _]) hM imX9_load ivX9_load ilX9_load mwX9_195 xciX9 dX9_lessen_21 rfl rfl rfl (Nat.le_of_ble_eq_true rfl) ?_
    refine (c_load G l o as M0 N S (d + 2) (28 * k + k) 0 (by omega) (by decide) σ' _ c1).mono (fun x σ9 hp => ?_)
    obtain ⟨rfl, k9, r9⟩ := hp
    intro M hM
    show xX G l _ (d + 3) _ _ _ [] M N S
    refine x_aload_n (q := 25) dX9_lessen_24 rfl rfl ?_
    refine xn_bipush (q := 27) 28 dX9_lessen_25 rfl (by decide) ?_
    refine x_iload_n (q := 28) dX9_lessen_27 rfl rfl ?_
    refine xn_imul (q := 29) dX9_lessen_28 rfl ?_
    refine x_iload_n (q := 30) dX9_lessen_29 rfl rfl ?_
    refine xn_iadd (q := 31) dX9_lessen_30 rfl ?_
    refine xn_iconst (q := 32) 1 dX9_lessen_31 rfl (by decide) ?_
    refine m_call (q := 35) (As := [_, _]) hM imX9_load ivX9_load ilX9_load mwX9_195 xciX9 dX9_lessen_32 rfl rfl rfl (Nat.le_of_ble_eq_true rfl) ?_
    refine (c_load G l o as M0 N S (d + 2) (28 * i + (k + (u + 1))) 1 (by omega) (by decide) σ9 _ (k9.cel c2)).mono (fun x σ19 hp => ?_)
    obtain ⟨rfl, k19, r19⟩ := hp
    intro M hM
    show xX G l _ (d + 3) _ _ _ [] M N S
    refine x_aload_n (q := 36) dX9_lessen_35 rfl rfl ?_
    refine xn_iconst (q := 37) 0 dX9_lessen_36 rfl (by decide) ?_
    refine xn_iconst (q := 38) 1 dX9_lessen_37 rfl (by decide) ?_
    refine xn_iconst (q := 39) 2 dX9_lessen_38 rfl (by decide) ?_
    refine m_call (q := 42) (As := [_, _, _]) hM imX9_multiply ivX9_multiply ilX9_multiply mwX9_198 xciX9 dX9_lessen_39 rfl rfl rfl (Nat.le_of_ble_eq_true rfl) ?_
    refine (c_multiply G l o as M0 N S (d + 1) 0 1 2 (by decide) (by decide) (by decide) (by decide) (by decide) σ19 _ _ 24 24 (k19.reg (by decide) r9) r19 c1.w c2.w (by decide)).mono (fun x σ29 hp => ?_)
    obtain ⟨rfl, k29, r29⟩ := hp
    intro M hM
    show xX G l _ (d + 3) _ _ _ [] M N S
    refine x_aload_n (q := 43) dX9_lessen_42 rfl rfl ?_
    refine xn_bipush (q := 45) 28 dX9_lessen_43 rfl (by decide) ?_
    refine x_iload_n (q := 46) dX9_lessen_45 rfl rfl ?_
    refine xn_imul (q := 47) dX9_lessen_46 rfl ?_
    refine x_iload_n (q := 48) dX9_lessen_47 rfl rfl ?_
    refine xn_iadd (q := 49) dX9_lessen_48 rfl ?_
    refine xn_iconst (q := 50) 0 dX9_lessen_49 rfl (by decide) ?_
    refine m_call (q := 53) (As := [_, _]) hM imX9_load ivX9_load ilX9_load mwX9_195 xciX9 dX9_lessen_50 rfl rfl rfl (Nat.le_of_ble_eq_true rfl) ?_
    refine (c_load G l o as M0 N S (d + 2) (28 * i + k) 0 (by omega) (by decide) σ29 _ (k29.cel (k19.cel (k9.cel c3)))).mono (fun x σ39 hp => ?_)
    obtain ⟨rfl, k39, r39⟩ := hp
    intro M hM
    show xX G l _ (d + 3) _ _ _ [] M N S
    refine x_aload_n (q := 54) dX9_lessen_53 rfl rfl ?_
    refine xn_bipush (q := 56) 28 dX9_lessen_54 rfl (by decide) ?_
    refine x_iload_n (q := 57) dX9_lessen_56 rfl rfl ?_
    refine xn_imul (q := 58) dX9_lessen_57 rfl ?_
    refine x_iload_n (q := 59) dX9_lessen_58 rfl rfl ?_
    refine xn_iadd (q := 60) dX9_lessen_59 rfl ?_
    refine xn_iconst (q := 61) 1 dX9_lessen_60 rfl (by decide) ?_
    refine m_call (q := 64) (As := [_, _]) hM imX9_load ivX9_load ilX9_load mwX9_195 xciX9 dX9_lessen_61 rfl rfl rfl (Nat.le_of_ble_eq_true rfl) ?_
    refine (c_load G l o as M0 N S (d + 2) (28 * k + (k + (u + 1))) 1 (by omega) (by decide) σ39 _ (k39.cel (k29.cel (k19.cel (k9.cel c4))))).mono (fun x σ49 hp => ?_)
    obtain ⟨rfl, k49, r49⟩ := hp
    intro M hM
    show xX G l _ (d + 3) _ _ _ [] M N S
    refine x_aload_n (q := 65) dX9_lessen_64 rfl rfl ?_
    refine xn_iconst (q := 66) 0 dX9_lessen_65 rfl (by decide) ?_
    refine xn_iconst (q := 67) 1 dX9_lessen_66 rfl (by decide) ?_
    refine xn_iconst (q := 68) 3 dX9_lessen_67 rfl (by decide) ?_
    refine m_call (q := 71) (As := [_, _, _]) hM imX9_multiply ivX9_multiply ilX9_multiply mwX9_198 xciX9 dX9_lessen_68 rfl rfl rfl (Nat.le_of_ble_eq_true rfl) ?_
    refine (c_multiply G l o as M0 N S (d + 1) 0 1 3 (by decide) (by decide) (by decide) (by decide) (by decide) σ49 _ _ 24 24 (k49.reg (by decide) r39) r49 c3.w c4.w (by decide)).mono (fun x σ59 hp => ?_)
    obtain ⟨rfl, k59, r59⟩ := hp
    intro M hM
    show xX G l _ (d + 3) _ _ _ [] M N S
    refine x_aload_n (q := 72) dX9_lessen_71 rfl rfl ?_
    refine xn_iconst (q := 73) 2 dX9_lessen_72 rfl (by decide) ?_
    refine xn_iconst (q := 74) 3 dX9_lessen_73 rfl (by decide) ?_
    refine x_iconst (q := 75) (-1) dX9_lessen_74 rfl (by decide) ?_
    refine xn_iconst (q := 76) 4 dX9_lessen_75 rfl (by decide) ?_
    refine m_call (q := 79) (As := [_, _, _, _]) hM imX9_add ivX9_add ilX9_add mwX9_201 xciX9 dX9_lessen_76 rfl rfl rfl (Nat.le_of_ble_eq_true rfl) ?_
    refine (c_add G l o as M0 N S d 2 3 4 (by decide) (by decide) (by decide) (by decide) (by decide) σ59 _ _ (-1) _ (k59.reg (by decide) (k49.reg (by decide) (k39.reg (by decide) r29))) r59 (Or.inr rfl) rfl (Nat.lt_of_lt_of_le (mul_w c1.w c2.w) (B9_mono (by decide))) (Nat.lt_of_lt_of_le (mul_w c3.w c4.w) (B9_mono (by decide)))).mono (fun x σ69 hp => ?_)
    obtain ⟨rfl, k69, r69⟩ := hp
    intro M hM
    show xX G l _ (d + 3) _ _ _ [] M N S
    have hsub := sub_w (mul_w c1.w c2.w) (mul_w c3.w c4.w)
    have esub : A k k * A i (k + (u + 1)) + -1 * (A i k * A k (k + (u + 1))) = A k k * A i (k + (u + 1)) - A i k * A k (k + (u + 1)) := by omega
    rw [esub] at r69 hsub
    refine x_aload_n (q := 80) dX9_lessen_79 rfl rfl ?_
    refine xn_bipush (q := 82) 9 dX9_lessen_80 rfl (by decide) ?_
    refine xn_iconst (q := 83) 5 dX9_lessen_82 rfl (by decide) ?_
    refine m_call (q := 86) (As := [_, _]) hM imX9_copy ivX9_copy ilX9_copy mwX9_107 xciX9 dX9_lessen_83 rfl rfl rfl (Nat.le_of_ble_eq_true rfl) ?_
    refine (c_copy G l o as M0 N S (d + 2) 9 5 (by decide) (by decide) (by decide) σ69 p (k69.reg (by decide) (k59.reg (by decide) (k49.reg (by decide) (k39.reg (by decide) (k29.reg (by decide) (k19.reg (by decide) (k9.reg (by decide) hpr)))))))).mono (fun x σ70 hp => ?_)
    obtain ⟨rfl, k70, r70⟩ := hp
    intro M hM
    show xX G l _ (d + 3) _ _ _ [] M N S
    have r69b := k70.reg (r := 4) (by decide) r69
    have s4 : σ70.2.1 16 4 = sg (A k k * A i (k + (u + 1)) - A i k * A k (k + (u + 1))) := r69b.choose_spec.2.2.2.1
    have s5 : σ70.2.1 16 5 = sg p := r70.choose_spec.2.2.2.1
    refine x_aload_n (q := 87) dX9_lessen_86 rfl rfl ?_
    refine m_get (q := 90) hM 16 fwX9_47 (by decide) dX9_lessen_87 rfl rfl ?_
    refine xn_iconst (q := 91) 4 dX9_lessen_90 rfl (by decide) ?_
    refine m_iald (q := 92) hM (n := 16) (by decide) dX9_lessen_91 rfl (by omega) ?_
    rw [s4]
    refine x_aload_n (q := 93) dX9_lessen_92 rfl rfl ?_
    refine m_get (q := 96) hM 16 fwX9_47 (by decide) dX9_lessen_93 rfl rfl ?_
    refine xn_iconst (q := 97) 5 dX9_lessen_96 rfl (by decide) ?_
    refine m_iald (q := 98) hM (n := 16) (by decide) dX9_lessen_97 rfl (by omega) ?_
    rw [s5]
    refine x_imul (q := 99) dX9_lessen_98 rfl ?_
    refine x_istore (q := 101) (ls' := [(0, _), (1, _), (2, _), (3, _), (4, _)]) [1, 2, 3, 4, 0] dX9_lessen_99 rfl (by decide) rfl ?_
    refine x_aload_n (q := 102) dX9_lessen_101 rfl rfl ?_
    refine xn_iconst (q := 103) 4 dX9_lessen_102 rfl (by decide) ?_
    refine xn_iconst (q := 104) 5 dX9_lessen_103 rfl (by decide) ?_
    refine xn_bipush (q := 106) 6 dX9_lessen_104 rfl (by decide) ?_
    refine m_call (q := 109) (As := [_, _, _]) hM imX9_divide ivX9_divide ilX9_divide mwX9_136 xciX9 dX9_lessen_106 rfl rfl rfl (Nat.le_of_ble_eq_true rfl) ?_
    refine (c_divide G l o as M0 N S d 4 5 6 (by decide) (by decide) (by decide) (by decide) (by decide) (by decide) σ70 _ p r69b r70 hp0 (Nat.lt_of_lt_of_le hsub (B9_mono (by decide)))).mono (fun x σ79 hp => ?_)
    obtain ⟨rfl, k79', ra79, rq79⟩ := hp
    intro M hM
    show xX G l _ (d + 3) _ _ _ [] M N S
    have k79 : keeps [4, 5, 6, 15] σ69 σ79 := (k70.s (by simp)).trans (k79'.mono (by intro r hr; simp at hr ⊢; omega))
    obtain ⟨nq, nq4, nqn, nqz, nqs, nql⟩ := id rq79
    have htd := tdiv_sign (A k k * A i (k + (u + 1)) - A i k * A k (k + (u + 1))) p hp0
    rw [Int.natAbs_natCast] at nqn nql
    have hnq0 := nl_zero_iff nqn
    refine x_aload_n (q := 110) dX9_lessen_109 rfl rfl ?_
    refine m_get (q := 113) hM 16 fwX9_47 (by decide) dX9_lessen_110 rfl rfl ?_
    refine xn_bipush (q := 115) 6 dX9_lessen_113 rfl (by decide) ?_
    refine x_aload_n (q := 116) dX9_lessen_115 rfl rfl ?_
    refine m_get (q := 119) hM 15 fwX9_44 (by decide) dX9_lessen_116 rfl rfl ?_
    refine xn_bipush (q := 121) 6 dX9_lessen_119 rfl (by decide) ?_
    refine m_iald (q := 122) hM (n := 16) (by decide) dX9_lessen_121 rfl (by omega) ?_
    rw [nqz]
    refine xn_if_ne (q := 125) 129 dX9_lessen_122 (by decide) rfl (by omega) (fun hc122 => ?_) (fun hc122 => ?_)
    · refine x_iload (q := 131) dX9_lessen_129 rfl rfl ?_
      refine m_sign (q := 132) hM dX9_lessen_131 rfl (by omega) (fun M σ131 k131 e131 f131 g131 hM => ?_)
      refine x_aload_n (q := 133) dX9_lessen_132 rfl rfl ?_
      refine xn_bipush (q := 135) 6 dX9_lessen_133 rfl (by decide) ?_
      refine xn_bipush (q := 137) 28 dX9_lessen_135 rfl (by decide) ?_
      refine x_iload_n (q := 138) dX9_lessen_137 rfl rfl ?_
      refine xn_imul (q := 139) dX9_lessen_138 rfl ?_
      refine x_iload_n (q := 140) dX9_lessen_139 rfl rfl ?_
      refine xn_iadd (q := 141) dX9_lessen_140 rfl ?_
      refine m_call (q := 144) (As := [_, _]) hM imX9_store ivX9_store ilX9_store mwX9_192 xciX9 dX9_lessen_141 rfl rfl rfl (Nat.le_of_ble_eq_true rfl) ?_
      have r131 : Reg σ131 6 (lesP A i k p (k + (u + 1))) := by
        refine rq79.resign f131 g131 ?_ (by rw [Int.natAbs_natCast]; exact htd.1)
        rw [e131]
        first
        | (have z0 := hnq0.mp hc122
           have : lesP A i k p (k + (u + 1)) = 0 := by unfold lesP; have := htd.1; omega
           rw [this]; rfl)
        | (refine (htd.2 (fun e => hc122 (hnq0.mpr ?_))).symm
           rw [← htd.1, e]; rfl)
      refine (c_store G l o as M0 N S (d + 2) 6 (28 * i + (k + (u + 1))) (by decide) (by omega) σ131 _ r131 hb0).mono (fun x σ89 hp => ?_)
      obtain ⟨rfl, k89, r89⟩ := hp
      intro M hM
      show xX G l _ (d + 3) _ _ _ [] M N S
      refine xn_iincd (q := 147) (ls' := [(0, _), (1, _), (2, _), (3, _), (4, _)]) [1, 2, 3, 0, 4] dX9_lessen_144 rfl rfl (by decide) (by omega) (by decide) rfl ?_
      refine x_goto 8 dX9_lessen_147 (by decide) ?_
      refine x_ls (ls' := [(0, _), (1, _), (2, _), (3, _)]) [0, 1, 2, 3] rfl ?_
      have m1 : Mat σ89 (lesJ A i k p w (k + u)) := Mat.put (k131.mat (k79.mat (k69.mat (k59.mat (k49.mat (k39.mat (k29.mat (k19.mat (k9.mat hm))))))))) k89 (by omega) (by unfold lesJ; rw [if_pos ⟨rfl, by omega, htw⟩]; exact r89) (fun i' j' _ _ h => ?_)
      · exact ih (by omega) σ89 M (hkc.trans ((((((((((k9.kc (by simp)).trans (k19.kc (by simp))).trans (k29.kc (by simp))).trans (k39.kc (by simp))).trans (k49.kc (by simp))).trans (k59.kc (by simp))).trans (k69.kc (by simp))).trans (k79.kc.mono (by intro r hr; simp at hr ⊢; omega))).trans (k131.kc (by simp))).trans (keepc.kc k89))) m1 hM
      · unfold lesJ
        by_cases e : i' = i ∧ k + (u + 1) < j' ∧ j' ≤ w
        · rw [if_pos e, if_pos (by omega)]
        · rw [if_neg e, if_neg (by omega)]
    · refine xn_iconst (q := 126) 0 dX9_lessen_125 rfl (by decide) ?_
      refine x_goto 131 dX9_lessen_126 (by decide) ?_
      refine m_sign (q := 132) hM dX9_lessen_131 rfl (by omega) (fun M σ131 k131 e131 f131 g131 hM => ?_)
      refine x_aload_n (q := 133) dX9_lessen_132 rfl rfl ?_
      refine xn_bipush (q := 135) 6 dX9_lessen_133 rfl (by decide) ?_
      refine xn_bipush (q := 137) 28 dX9_lessen_135 rfl (by decide) ?_
      refine x_iload_n (q := 138) dX9_lessen_137 rfl rfl ?_
      refine xn_imul (q := 139) dX9_lessen_138 rfl ?_
      refine x_iload_n (q := 140) dX9_lessen_139 rfl rfl ?_
      refine xn_iadd (q := 141) dX9_lessen_140 rfl ?_
      refine m_call (q := 144) (As := [_, _]) hM imX9_store ivX9_store ilX9_store mwX9_192 xciX9 dX9_lessen_141 rfl rfl rfl (Nat.le_of_ble_eq_true rfl) ?_
      have r131 : Reg σ131 6 (lesP A i k p (k + (u + 1))) := by
        refine rq79.resign f131 g131 ?_ (by rw [Int.natAbs_natCast]; exact htd.1)
        rw [e131]
        first
        | (have z0 := hnq0.mp hc122
           have : lesP A i k p (k + (u + 1)) = 0 := by unfold lesP; have := htd.1; omega
           rw [this]; rfl)
        | (refine (htd.2 (fun e => hc122 (hnq0.mpr ?_))).symm
           rw [← htd.1, e]; rfl)
      refine (c_store G l o as M0 N S (d + 2) 6 (28 * i + (k + (u + 1))) (by decide) (by omega) σ131 _ r131 hb0).mono (fun x σ89 hp => ?_)
      obtain ⟨rfl, k89, r89⟩ := hp
      intro M hM
      show xX G l _ (d + 3) _ _ _ [] M N S
      refine xn_iincd (q := 147) (ls' := [(0, _), (1, _), (2, _), (3, _), (4, _)]) [1, 2, 3, 0, 4] dX9_lessen_144 rfl rfl (by decide) (by omega) (by decide) rfl ?_
      refine x_goto 8 dX9_lessen_147 (by decide) ?_
      refine x_ls (ls' := [(0, _), (1, _), (2, _), (3, _)]) [0, 1, 2, 3] rfl ?_
      have m1 : Mat σ89 (lesJ A i k p w (k + u)) := Mat.put (k131.mat (k79.mat (k69.mat (k59.mat (k49.mat (k39.mat (k29.mat (k19.mat (k9.mat hm))))))))) k89 (by omega) (by unfold lesJ; rw [if_pos ⟨rfl, by omega, htw⟩]; exact r89) (fun i' j' _ _ h => ?_)
      · exact ih (by omega) σ89 M (hkc.trans ((((((((((k9.kc (by simp)).trans (k19.kc (by simp))).trans (k29.kc (by simp))).trans (k39.kc (by simp))).trans (k49.kc (by simp))).trans (k59.kc (by simp))).trans (k69.kc (by simp))).trans (k79.kc.mono (by intro r hr; simp at hr ⊢; omega))).trans (k131.kc (by simp))).trans (keepc.kc k89))) m1 hM
      · unfold lesJ
        by_cases e : i' = i ∧ k + (u + 1) < j' ∧ j' ≤ w
        · rw [if_pos e, if_pos (by omega)]
        · rw [if_neg e, if_neg (by omega)]
set_option maxRecDepth 100000 in
set_option maxHeartbeats 4000000 in
theorem c_lessen (G : xG) (l : Launch) (o : Nat) (as : Nat → Nat) (M0 : xM) (N S : Nat) (d : Nat) (i k m : Nat) (hi : i < 12) (hk : k < 12) (hik : i ≠ k) (hm : m ≤ 3) (hkm : k ≤ 9 * m) (σ : mS) (hm3 : σ.1 3 = nI m) (A : Nat → Nat → Int) (hA : Mat σ A) (p : Int) (hp : Reg σ 9 p) (hp0 : p ≠ 0) (hpw : p.natAbs < B9 ^ 24) (hbd : ∀ j, k < j → j ≤ 9 * m → (lesP A i k p j).natAbs < B9 ^ 24) : mC G l o as M0 N S YX9_lessen (d + 3) [.int (nI i), .int (nI k)] σ (fun x σ' => x = none ∧ kc [0, 1, 2, 3, 4, 5, 6, 15] σ σ' ∧ Mat σ' (lesJ A i k p (9 * m) k)) := by
  refine mC.of (ls := [(0, .ref o), (1, .int (nI i)), (2, .int (nI k))]) (by decide) (Nat.le_of_ble_eq_true rfl) rfl fun M hM => ?_
  refine xn_bipush (q := 2) 9 dX9_lessen_0 rfl (by decide) ?_
  refine x_aload_n (q := 3) dX9_lessen_2 rfl rfl ?_
  refine m_get (q := 6) hM 3 fwX9_93 (by decide) dX9_lessen_3 rfl rfl ?_
  rw [hm3]
  refine xn_imul (q := 7) dX9_lessen_6 rfl ?_
  refine x_istore_n (q := 8) (ls' := [(0, _), (1, _), (2, _), (3, _)]) [1, 2, 3, 0] dX9_lessen_7 rfl (by decide) rfl ?_
  have h5 := c_lessen_loop G l o as M0 N S d i k (9 * m) hi hk hik (by omega) σ A p hp hp0 hpw hbd (mQ o as M0 N S (fun x σ' => x = none ∧ kc [0, 1, 2, 3, 4, 5, 6, 15] σ σ' ∧ Mat σ' (lesJ A i k p (9 * m) k))) (fun σ' M hkc hm hM => ?_) (9 * m - k) (by omega) σ M kc.rfl' (fun i' j hi' hj => by unfold lesJ; rw [if_neg (by omega)]; exact hA i' j hi' hj) hM
  · rw [show k + (9 * m - k) = 9 * m by omega] at h5; exact h5
  · exact x_vret rfl dX9_lessen_150 (m_ret hM ⟨rfl, hkc, hm⟩)
end XJ
