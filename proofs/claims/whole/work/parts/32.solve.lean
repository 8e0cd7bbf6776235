section XQ1
def lesT (A : Nat → Nat → Int) (k : Nat) (p : Int) (w t : Nat) : Nat → Nat → Int := fun i j => if i ≠ k ∧ i < t ∧ k < j ∧ j ≤ w then lesP A i k p j else A i j
/-- one step of the elimination: the row with a pivot comes to its place, the others are lessened -/
def gjB (A : Nat → Nat → Int) (k n : Nat) : Nat → Nat → Int := if pivR A k (n - k) k = k then A else swM A (pivR A k (n - k) k) k
def gjS (A : Nat → Nat → Int) (n w : Nat) : Nat → (Nat → Nat → Int) × Int
  | 0 => (A, 1)
  | k + 1 => (lesT (gjB (gjS A n w k).1 k n) k (gjS A n w k).2 w n, gjB (gjS A n w k).1 k n k k)
def gjOk (A : Nat → Nat → Int) (n w : Nat) : Prop := ∀ k, k < n → pivR (gjS A n w k).1 k (n - k) k < n ∧ ∀ i, i < n → i ≠ k → ∀ j, k < j → j ≤ w → (lesP (gjB (gjS A n w k).1 k n) i k (gjS A n w k).2 j).natAbs < B9 ^ 24
def stA (c : mCf) : Nat → Nat → Int := fun i j => (stT c (c.m + 1)).1 (28 * i + j)
theorem pivR_ne {W : Nat → Nat → Int} {c : Nat} : ∀ t k, pivR W c t k < k + t → W (pivR W c t k) c ≠ 0
  | 0, k, h => absurd h (by unfold pivR; omega)
  | t + 1, k, h => by
    unfold pivR at *
    by_cases e : W k c = 0
    · rw [if_pos e] at *
      exact pivR_ne t (k + 1) (by omega)
    · rw [if_neg e]; exact e
theorem gjB_ne {A : Nat → Nat → Int} {k n : Nat} (hk : k < n) (h : pivR A k (n - k) k < n) : gjB A k n k k ≠ 0 := by
  have h1 := pivR_ne (n - k) k (by omega : pivR A k (n - k) k < k + (n - k))
  unfold gjB
  split
  · rename_i e; rw [e] at h1; exact h1
  · rename_i e
    unfold swM
    rw [if_neg (by omega), if_pos rfl]
    exact h1
theorem gjS_ne {A : Nat → Nat → Int} {n w : Nat} (h : gjOk A n w) : ∀ k, k ≤ n → (gjS A n w k).2 ≠ 0
  | 0, _ => by show (1 : Int) ≠ 0; decide
  | k + 1, hk => gjB_ne (by omega) (h k (by omega)).1
def onlyQ (σ σ' : mS) : Prop := (∀ k, k ≠ 21 → k ≠ 22 → k ≠ 23 → k ≠ 25 → k ≠ 27 → σ'.1 k = σ.1 k) ∧ (∀ k, k ≠ 14 → k ≠ 15 → k ≠ 16 → k ≠ 17 → k ≠ 18 → k ≠ 19 → k ≠ 28 → σ'.2.1 k = σ.2.1 k) ∧ ∀ k, k ≠ 20 → k ≠ 24 → k ≠ 26 → σ'.2.2 k = σ.2.2 k
theorem onlyQ.rfl' {σ : mS} : onlyQ σ σ := ⟨fun _ _ _ _ _ _ => rfl, fun _ _ _ _ _ _ _ _ => rfl, fun _ _ _ _ => rfl⟩
theorem onlyQ.trans {σ σ' σ'' : mS} (h : onlyQ σ σ') (h2 : onlyQ σ' σ'') : onlyQ σ σ'' := ⟨fun k a b c d e => (h2.1 k a b c d e).trans (h.1 k a b c d e), fun k a b c d e f g => (h2.2.1 k a b c d e f g).trans (h.2.1 k a b c d e f g), fun k a b c => (h2.2.2 k a b c).trans (h.2.2 k a b c)⟩
theorem onlyS.q {σ σ' : mS} (h : onlyS σ σ') : onlyQ σ σ' := ⟨fun k a _ _ _ _ => h.1 k a, fun k a b c d e f _ => h.2.1 k a b c d e f, fun k a _ _ => h.2.2 k a⟩
theorem onlyR.q {σ σ' : mS} (h : onlyR σ σ') : onlyQ σ σ' := ⟨fun k _ _ b a c => h.1 k a b c, fun k _ _ _ _ _ _ a => h.2.1 k a, fun k _ a b => h.2.2 k a b⟩
theorem onlyQ.cf {σ σ' : mS} {c : mCf} (h : onlyQ σ σ') (hc : Cf σ c) : Cf σ' c := by
  unfold Cf at *
  rw [h.1 3 (by decide) (by decide) (by decide) (by decide) (by decide), h.2.1 4 (by decide) (by decide) (by decide) (by decide) (by decide) (by decide) (by decide), h.2.1 5 (by decide) (by decide) (by decide) (by decide) (by decide) (by decide) (by decide), h.2.1 6 (by decide) (by decide) (by decide) (by decide) (by decide) (by decide) (by decide), h.2.1 7 (by decide) (by decide) (by decide) (by decide) (by decide) (by decide) (by decide), h.2.1 8 (by decide) (by decide) (by decide) (by decide) (by decide) (by decide) (by decide), h.2.1 9 (by decide) (by decide) (by decide) (by decide) (by decide) (by decide) (by decide)]
  exact hc
theorem Lsd.s {σ σ' : mS} {c : mCf} (h : Lsd σ c) (hs : onlyS σ σ') : Lsd σ' c := ⟨(hs.1 23 (by decide)).trans h.1, fun e => (h.2 e).eq (hs.1 27 (by decide)) (hs.2.1 28 (by decide) (by decide) (by decide) (by decide) (by decide) (by decide))⟩
/-- the reference has solved this row of beams -/
def Slv (σ : mS) (c : mCf) : Prop := Lsd σ c ∧ (looseB c = false → Mat σ (gjS (stA c) (4 * c.m) (9 * c.m) (4 * c.m)).1 ∧ Reg σ 10 (gjS (stA c) (4 * c.m) (9 * c.m) (4 * c.m)).2)
def slvOk (c : mCf) : Prop := rigOk c ∧ (looseB c = false → gjOk (stA c) (4 * c.m) (9 * c.m))
def Inv (σ : mS) (c : mCf) : Prop := Cf σ c ∧ (σ.1 22 = 0 ∨ (σ.1 22 = 1 ∧ Slv σ c))
set_option maxRecDepth 100000 in
set_option maxHeartbeats 4000000 in
theorem c_sol_piv (G : xG) (l : Launch) (o : Nat) (as : Nat → Nat) (M0 : xM) (N S : Nat) (d : Nat) (σ : mS) (A : Nat → Nat → Int) (n k : Nat) (hn : n ≤ 12) (hA : Mat σ A) (M : xM) (hM : mAt o as σ M0 M) (Q : xPost) :
    ∀ (u t : Nat), t + u = n → k < n → pivR A k u t < n → xX G l YX9_solveAll d Q 72 [(0, .ref o), (1, .int (nI n)), (2, .int (nI k)), (3, .int (nI (pivR A k u t)))] [] M N S → xX G l YX9_solveAll d Q 52 [(0, .ref o), (1, .int (nI n)), (2, .int (nI k)), (3, .int (nI t))] [] M N S := by
  intro u
  induction u with
  | zero =>
    intro t ht hk hp
    exact absurd hp (by unfold pivR; omega)
  | succ u ih =>
    intro t ht hk hp hx
    have hs : σ.2.1 19 (28 * t + k) = sg (A t k) := (hA t k (by omega) (by omega)).choose_spec.2.2.2.1
    unfold pivR at hx hp
    refine x_aload_n (q := 53) dX9_solveAll_52 rfl rfl ?_
    refine m_get (q := 56) hM 19 fwX9_56 (by decide) dX9_solveAll_53 rfl rfl ?_
    refine xn_bipush (q := 58) 28 dX9_solveAll_56 rfl (by decide) ?_
    refine x_iload_n (q := 59) dX9_solveAll_58 rfl rfl ?_
    refine xn_imul (q := 60) dX9_solveAll_59 rfl ?_
    refine x_iload_n (q := 61) dX9_solveAll_60 rfl rfl ?_
    refine xn_iadd (q := 62) dX9_solveAll_61 rfl ?_
    refine m_iald (q := 63) hM (n := 336) (by decide) dX9_solveAll_62 rfl (by omega) ?_
    rw [hs]
    refine x_if_ne (q := 66) 72 dX9_solveAll_63 (by decide) rfl (fun hc63 => ?_) (fun hc63 => ?_)
    · rw [if_neg (fun e => hc63 (sg_eq_zero.mpr e))] at hx; exact hx
    · refine xn_iinc (q := 69) (ls' := [(0, _), (1, _), (2, _), (3, _)]) [1, 2, 3, 0] 1 dX9_solveAll_66 rfl rfl (by decide) (by decide) rfl ?_
      refine x_goto 52 dX9_solveAll_69 (by decide) ?_
      have e0 := sg_eq_zero.mp hc63
      rw [if_pos e0] at hx hp; exact ih (t + 1) (by omega) hk hp hx
set_option maxRecDepth 100000 in
set_option maxHeartbeats 4000000 in
theorem c_sol_rows (G : xG) (l : Launch) (o : Nat) (as : Nat → Nat) (M0 : xM) (N S : Nat) (d : Nat) (σ : mS) (m k : Nat) (hm : m ≤ 3) (hk : k < 4 * m) (hm3 : σ.1 3 = nI m) (A : Nat → Nat → Int) (p : Int) (hp : Reg σ 9 p) (hp0 : p ≠ 0) (hpw : p.natAbs < B9 ^ 24) (hbd : ∀ i, i < 4 * m → i ≠ k → ∀ j, k < j → j ≤ 9 * m → (lesP A i k p j).natAbs < B9 ^ 24) (ln : Nat) (Q : xPost)
    (hx : ∀ σ' M, kc [0, 1, 2, 3, 4, 5, 6, 15] σ σ' → Mat σ' (lesT A k p (9 * m) (4 * m)) → mAt o as σ' M0 M → xX G l YX9_solveAll (d + 4) Q 111 [(0, .ref o), (1, .int (nI (4 * m))), (2, .int (nI k)), (3, .int (nI ln)), (4, .int (nI (4 * m)))] [] M N S) :
    ∀ (u t : Nat), t + u = 4 * m → ∀ σ' M, kc [0, 1, 2, 3, 4, 5, 6, 15] σ σ' → Mat σ' (lesT A k p (9 * m) t) → mAt o as σ' M0 M → xX G l YX9_solveAll (d + 4) Q 86 [(0, .ref o), (1, .int (nI (4 * m))), (2, .int (nI k)), (3, .int (nI ln)), (4, .int (nI t))] [] M N S := by
  intro u
  induction u with
  | zero =>
    intro t ht σ' M hkc hA hM
    obtain rfl : t = 4 * m := by omega
    refine x_iload (q := 88) dX9_solveAll_86 rfl rfl ?_
    refine x_iload_n (q := 89) dX9_solveAll_88 rfl rfl ?_
    refine xn_icmp_ge (q := 92) 111 dX9_solveAll_89 (by decide) rfl (by omega) (by omega) (fun hc89 => ?_) (fun hc89 => absurd hc89 (by omega))
    exact hx σ' M hkc hA hM
  | succ u ih =>
    intro t ht σ' M hkc hA hM
    have hm' : σ'.1 3 = nI m := by rw [hkc.1]; exact hm3
    refine x_iload (q := 88) dX9_solveAll_86 rfl rfl ?_
    refine x_iload_n (q := 89) dX9_solveAll_88 rfl rfl ?_
    refine xn_icmp_ge (q := 92) 111 dX9_solveAll_89 (by decide) rfl (by omega) (by omega) (fun hc89 => absurd hc89 (by omega)) (fun hc89 => ?_)
    refine x_iload (q := 94) dX9_solveAll_92 rfl rfl ?_
    refine x_iload_n (q := 95) dX9_solveAll_94 rfl rfl ?_
    refine xn_icmp_eq (q := 98) 105 dX9_solveAll_95 (by decide) rfl (by omega) (by omega) (fun hc95 => ?_) (fun hc95 => ?_)
    · refine xn_iinc (q := 108) (ls' := [(0, _), (1, _), (2, _), (3, _), (4, _)]) [1, 2, 3, 4, 0] 1 dX9_solveAll_105 rfl rfl (by decide) (by decide) rfl ?_
      refine x_goto 86 dX9_solveAll_108 (by decide) ?_
      refine ih (t + 1) (by omega) σ' M hkc (fun i j hi hj => ?_) hM
      have := hA i j hi hj
      unfold lesT at *
      by_cases e : i ≠ k ∧ i < t ∧ k < j ∧ j ≤ 9 * m
      · rw [if_pos e] at this; rw [if_pos (by omega)]; exact this
      · rw [if_neg e] at this; rw [if_neg (by omega)]; exact this
    · refine x_aload_n (q := 99) dX9_solveAll_98 rfl rfl ?_
      refine x_iload (q := 101) dX9_solveAll_99 rfl rfl ?_
      refine x_iload_n (q := 102) dX9_solveAll_101 rfl rfl ?_
      refine m_call (q := 105) (As := [_, _]) hM imX9_lessen ivX9_lessen ilX9_lessen mwX9_221 xciX9 dX9_solveAll_102 rfl rfl rfl (Nat.le_of_ble_eq_true rfl) ?_
      have e0 : ∀ j, lesP (lesT A k p (9 * m) t) t k p j = lesP A t k p j := fun j => by
        unfold lesP lesT
        rw [if_neg (by omega), if_neg (by omega), if_neg (by omega), if_neg (by omega)]
      refine (c_lessen G l o as M0 N S d t k m (by omega) (by omega) hc95 hm (by omega) σ' hm' (lesT A k p (9 * m) t) hA p (hkc.reg (by decide) hp) hp0 hpw (fun j h1 h2 => by rw [e0]; exact hbd t (by omega) hc95 j h1 h2)).mono (fun x σ9 hp => ?_)
      obtain ⟨rfl, k9, m9⟩ := hp
      intro M hM
      show xX G l _ (d + 4) _ _ _ [] M N S
      refine xn_iinc (q := 108) (ls' := [(0, _), (1, _), (2, _), (3, _), (4, _)]) [1, 2, 3, 4, 0] 1 dX9_solveAll_105 rfl rfl (by decide) (by decide) rfl ?_
      refine x_goto 86 dX9_solveAll_108 (by decide) ?_
      refine ih (t + 1) (by omega) σ9 M (hkc.trans k9) (fun i j hi hj => ?_) hM
      have := m9 i j hi hj
      have e0 : ∀ j, lesP (lesT A k p (9 * m) t) t k p j = lesP A t k p j := fun j => by
        unfold lesP lesT
        rw [if_neg (by omega), if_neg (by omega), if_neg (by omega), if_neg (by omega)]
      unfold lesJ at this
      rw [e0] at this
      unfold lesT at *
      by_cases e : i = t ∧ k < j ∧ j ≤ 9 * m
      · rw [if_pos e] at this; rw [if_pos (by omega)]; rw [show lesP A i k p j = lesP A t k p j by rw [e.1]]; exact this
      · rw [if_neg e] at this
        by_cases f : i ≠ k ∧ i < t ∧ k < j ∧ j ≤ 9 * m
        · rw [if_pos f] at this; rw [if_pos (by omega)]; exact this
        · rw [if_neg f] at this; rw [if_neg (by omega)]; exact this
set_option maxRecDepth 100000 in
set_option maxHeartbeats 4000000 in
theorem c_sol_k (G : xG) (l : Launch) (o : Nat) (as : Nat → Nat) (M0 : xM) (N S : Nat) (d : Nat) (σ : mS) (m : Nat) (hm : m ≤ 3) (hm3 : σ.1 3 = nI m) (A : Nat → Nat → Int) (hok : gjOk A (4 * m) (9 * m)) (Q : xPost)
    (hx : ∀ σ' M, kc [0, 1, 2, 3, 4, 5, 6, 9, 10, 15] σ σ' → Mat σ' (gjS A (4 * m) (9 * m) (4 * m)).1 → Reg σ' 9 (gjS A (4 * m) (9 * m) (4 * m)).2 → mAt o as σ' M0 M → xX G l YX9_solveAll (d + 4) Q 129 [(0, .ref o), (1, .int (nI (4 * m))), (2, .int (nI (4 * m)))] [] M N S) :
    ∀ (u k : Nat), k + u = 4 * m → ∀ σ' M, kc [0, 1, 2, 3, 4, 5, 6, 9, 10, 15] σ σ' → Mat σ' (gjS A (4 * m) (9 * m) k).1 → Reg σ' 9 (gjS A (4 * m) (9 * m) k).2 → (gjS A (4 * m) (9 * m) k).2.natAbs < B9 ^ 24 → mAt o as σ' M0 M → xX G l YX9_solveAll (d + 4) Q 45 [(0, .ref o), (1, .int (nI (4 * m))), (2, .int (nI k))] [] M N S := by
  intro u
  induction u with
  | zero =>
    intro k hk σ' M hkc hA hr hw hM
    obtain rfl : k = 4 * m := by omega
    refine x_iload_n (q := 46) dX9_solveAll_45 rfl rfl ?_
    refine x_iload_n (q := 47) dX9_solveAll_46 rfl rfl ?_
    refine xn_icmp_ge (q := 50) 129 dX9_solveAll_47 (by decide) rfl (by omega) (by omega) (fun hc47 => ?_) (fun hc47 => absurd hc47 (by omega))
    exact hx σ' M hkc hA hr hM
  | succ u ih =>
    intro k hk σ' M hkc hA hr hw hM
    obtain ⟨hpv, hbd⟩ := hok k (by omega)
    have hp0 := gjS_ne hok k (by omega)
    have hpg := pivR_ge (gjS A (4 * m) (9 * m) k).1 k (4 * m - k) k
    have hB0 := gjB_ne (show k < 4 * m by omega) hpv
    have hm' : σ'.1 3 = nI m := by rw [hkc.1]; exact hm3
    have hih := ih (k + 1) (by omega)
    have e1 : (gjS A (4 * m) (9 * m) (k + 1)).1 = lesT (gjB (gjS A (4 * m) (9 * m) k).1 k (4 * m)) k (gjS A (4 * m) (9 * m) k).2 (9 * m) (4 * m) := rfl
    have e2 : (gjS A (4 * m) (9 * m) (k + 1)).2 = gjB (gjS A (4 * m) (9 * m) k).1 k (4 * m) k k := rfl
    rw [e1, e2] at hih
    clear e1 e2 ih
    generalize (gjS A (4 * m) (9 * m) k).1 = V at *
    generalize (gjS A (4 * m) (9 * m) k).2 = p at *
    have rows : ∀ (σ1 : mS) (M : xM), kc [0, 1, 2, 3, 4, 5, 6, 9, 10, 15] σ σ1 → Mat σ1 (gjB V k (4 * m)) → Reg σ1 9 p → mAt o as σ1 M0 M → xX G l YX9_solveAll (d + 4) Q 83 [(0, .ref o), (1, .int (nI (4 * m))), (2, .int (nI k)), (3, .int (nI (pivR V k (4 * m - k) k)))] [] M N S := by
      intro σ1 M k1 m1 r1 hM
      have hm1 : σ1.1 3 = nI m := by rw [k1.1]; exact hm3
      refine xn_iconst (q := 84) 0 dX9_solveAll_83 rfl (by decide) ?_
      refine x_istore (q := 86) (ls' := [(0, _), (1, _), (2, _), (3, _), (4, _)]) [1, 2, 3, 4, 0] dX9_solveAll_84 rfl (by decide) rfl ?_
      refine c_sol_rows G l o as M0 N S d σ1 m k hm (by omega) hm1 (gjB V k (4 * m)) p r1 hp0 hw hbd _ _ (fun σ2 M k2 m2 hM => ?_) (4 * m) 0 (Nat.zero_add _) σ1 M kc.rfl' (fun i j hi hj => by unfold lesT; rw [if_neg (by omega)]; exact m1 i j hi hj) hM
      have ekk : lesT (gjB V k (4 * m)) k p (9 * m) (4 * m) k k = gjB V k (4 * m) k k := if_neg (by omega)
      have ckk : Cel σ2 (28 * k + k) (gjB V k (4 * m) k k) := by rw [← ekk]; exact m2 k k (by omega) (by omega)
      refine x_aload_n (q := 112) dX9_solveAll_111 rfl rfl ?_
      refine xn_bipush (q := 114) 28 dX9_solveAll_112 rfl (by decide) ?_
      refine x_iload_n (q := 115) dX9_solveAll_114 rfl rfl ?_
      refine xn_imul (q := 116) dX9_solveAll_115 rfl ?_
      refine x_iload_n (q := 117) dX9_solveAll_116 rfl rfl ?_
      refine xn_iadd (q := 118) dX9_solveAll_117 rfl ?_
      refine xn_bipush (q := 120) 9 dX9_solveAll_118 rfl (by decide) ?_
      refine m_call (q := 123) (As := [_, _]) hM imX9_load ivX9_load ilX9_load mwX9_195 xciX9 dX9_solveAll_120 rfl rfl rfl (Nat.le_of_ble_eq_true rfl) ?_
      refine (c_load G l o as M0 N S (d + 3) (28 * k + k) 9 (by omega) (by decide) σ2 _ ckk).mono (fun x σ9 hp => ?_)
      obtain ⟨rfl, k9, r9⟩ := hp
      intro M hM
      show xX G l _ (d + 4) _ _ _ [] M N S
      refine xn_iinc (q := 126) (ls' := [(0, _), (1, _), (2, _), (3, _), (4, _)]) [1, 2, 0, 3, 4] 1 dX9_solveAll_123 rfl rfl (by decide) (by decide) rfl ?_
      refine x_goto 45 dX9_solveAll_126 (by decide) ?_
      refine x_ls (ls' := [(0, _), (1, _), (2, _)]) [0, 1, 2] rfl ?_
      exact hih σ9 M (k1.trans ((k2.mono (by intro r hr; simp at hr ⊢; omega)).trans (k9.kc (by simp)))) (k9.mat m2) r9 ckk.w hM
    refine x_iload_n (q := 46) dX9_solveAll_45 rfl rfl ?_
    refine x_iload_n (q := 47) dX9_solveAll_46 rfl rfl ?_
    refine xn_icmp_ge (q := 50) 129 dX9_solveAll_47 (by decide) rfl (by omega) (by omega) (fun hc47 => absurd hc47 (by omega)) (fun hc47 => ?_)
    refine x_iload_n (q := 51) dX9_solveAll_50 rfl rfl ?_
    refine x_istore_n (q := 52) (ls' := [(0, _), (1, _), (2, _), (3, _)]) [1, 2, 3, 0] dX9_solveAll_51 rfl (by decide) rfl ?_
    refine c_sol_piv G l o as M0 N S (d + 4) σ' V (4 * m) k (by omega) hA M hM _ (4 * m - k) k (by omega) (by omega) hpv ?_
    refine x_iload_n (q := 73) dX9_solveAll_72 rfl rfl ?_
    refine x_iload_n (q := 74) dX9_solveAll_73 rfl rfl ?_
    refine xn_icmp_eq (q := 77) 83 dX9_solveAll_74 (by decide) rfl (by omega) (by omega) (fun hc74 => ?_) (fun hc74 => ?_)
    · exact rows σ' M hkc (by unfold gjB; rw [if_pos hc74]; exact hA) hr hM
    · refine x_aload_n (q := 78) dX9_solveAll_77 rfl rfl ?_
      refine x_iload_n (q := 79) dX9_solveAll_78 rfl rfl ?_
      refine x_iload_n (q := 80) dX9_solveAll_79 rfl rfl ?_
      refine m_call (q := 83) (As := [_, _]) hM imX9_swap ivX9_swap ilX9_swap mwX9_218 xciX9 dX9_solveAll_80 rfl rfl rfl (Nat.le_of_ble_eq_true rfl) ?_
      refine (c_swap G l o as M0 N S (d + 2) (pivR V k (4 * m - k) k) k (by omega) (by omega) hc74 σ' V hA).mono (fun x σ9 hp => ?_)
      obtain ⟨rfl, k9, m9⟩ := hp
      intro M hM
      show xX G l _ (d + 4) _ _ _ [] M N S
      exact rows σ9 M (hkc.trans (k9.mono (by intro r hr; simp at hr ⊢; omega))) (by unfold gjB; rw [if_neg hc74]; exact m9) (k9.reg (by decide) hr) hM
set_option maxRecDepth 100000 in
set_option maxHeartbeats 4000000 in
theorem c_solveAll (G : xG) (l : Launch) (o : Nat) (as : Nat → Nat) (M0 : xM) (N S : Nat) (d : Nat) (σ : mS) (c : mCf) (hi : Inv σ c) (hok : slvOk c) : mC G l o as M0 N S YX9_solveAll (d + 5) [] σ (fun x σ' => x = none ∧ onlyQ σ σ' ∧ Cf σ' c ∧ σ'.1 22 = 1 ∧ Slv σ' c) := by
  obtain ⟨hc, hf⟩ := hi
  obtain ⟨ok, hm, -⟩ := id hc
  have m3 := ok.2.1
  have hm1 := ok.1
  refine mC.of (ls := [(0, .ref o)]) (by decide) (Nat.le_of_ble_eq_true rfl) rfl fun M hM => ?_
  rcases hf with hf | ⟨hf, hs⟩
  · refine x_aload_n (q := 1) dX9_solveAll_0 rfl rfl ?_
    refine m_get (q := 4) hM 22 fwX9_205 (by decide) dX9_solveAll_1 rfl rfl ?_
    rw [hf]
    refine x_if_eq (q := 7) 8 dX9_solveAll_4 (by decide) rfl (fun hc4 => ?_) (fun hc4 => absurd rfl hc4)
    refine x_aload_n (q := 9) dX9_solveAll_8 rfl rfl ?_
    refine xn_iconst (q := 10) 1 dX9_solveAll_9 rfl (by decide) ?_
    refine m_putG (q := 13) hM 22 fwX9_205 (by decide) rfl rfl rfl dX9_solveAll_10 rfl rfl rfl (fun M σ10 a10 e10 b10 hM => ?_)
    refine x_aload_n (q := 14) dX9_solveAll_13 rfl rfl ?_
    refine m_call (q := 17) (As := []) hM imX9_rigid ivX9_rigid ilX9_rigid mwX9_209 xciX9 dX9_solveAll_14 rfl rfl rfl (Nat.le_of_ble_eq_true rfl) ?_
    have q10 : onlyQ σ σ10 := ⟨fun k _ a _ _ _ => a10 k a, fun k _ _ _ _ _ _ _ => by rw [b10], fun k _ _ _ => by rw [b10]⟩
    refine (c_rigid G l o as M0 N S d σ10 c (q10.cf hc) hok.1).mono (fun x σ9 hp => ?_)
    obtain ⟨rfl, o9, ls9⟩ := hp
    intro M hM
    show xX G l _ (d + 5) _ _ _ [] M N S
    have h23 := ls9.1
    refine x_aload_n (q := 18) dX9_solveAll_17 rfl rfl ?_
    refine m_get (q := 21) hM 23 fwX9_212 (by decide) dX9_solveAll_18 rfl rfl ?_
    rw [h23]
    refine x_if_eq (q := 24) 25 dX9_solveAll_21 (by decide) rfl (fun hc21 => ?_) (fun hc21 => ?_)
    · refine x_aload_n (q := 26) dX9_solveAll_25 rfl rfl ?_
      refine m_call (q := 29) (As := []) hM imX9_state ivX9_state ilX9_state mwX9_215 xciX9 dX9_solveAll_26 rfl rfl rfl (Nat.le_of_ble_eq_true rfl) ?_
      have hlb : looseB c = false := bI_eq.mp hc21
      refine (c_state G l o as M0 N S d σ9 c (o9.cf (q10.cf hc))).mono (fun x σ19 hp => ?_)
      obtain ⟨rfl, o19, c19⟩ := hp
      intro M hM
      show xX G l _ (d + 5) _ _ _ [] M N S
      have ms19 : Mat σ19 (stA c) := fun i j hi hj => c19 (28 * i + j) (by omega)
      have hm19 : σ19.1 3 = nI c.m := by rw [o19.1 3 (by decide), o9.1 3 (by decide) (by decide) (by decide), a10 3 (by decide)]; exact hm
      refine xn_iconst (q := 30) 4 dX9_solveAll_29 rfl (by decide) ?_
      refine x_aload_n (q := 31) dX9_solveAll_30 rfl rfl ?_
      refine m_get (q := 34) hM 3 fwX9_93 (by decide) dX9_solveAll_31 rfl rfl ?_
      rw [hm19]
      refine xn_imul (q := 35) dX9_solveAll_34 rfl ?_
      refine x_istore_n (q := 36) (ls' := [(0, _), (1, _)]) [1, 0] dX9_solveAll_35 rfl (by decide) rfl ?_
      refine x_aload_n (q := 37) dX9_solveAll_36 rfl rfl ?_
      refine xn_bipush (q := 39) 9 dX9_solveAll_37 rfl (by decide) ?_
      refine xn_lconst (q := 40) 1 dX9_solveAll_39 rfl (by decide) ?_
      refine m_call (q := 43) (As := [_, _]) hM imX9_put ivX9_put ilX9_put mwX9_121 xciX9 dX9_solveAll_40 rfl rfl rfl (Nat.le_of_ble_eq_true rfl) ?_
      refine (c_put G l o as M0 N S (d + 4) 9 (by decide) (lN 1) 1 rfl (by decide) σ19).mono (fun x σ29 hp => ?_)
      obtain ⟨rfl, k29, r29⟩ := hp
      intro M hM
      show xX G l _ (d + 5) _ _ _ [] M N S
      have hm29 : σ29.1 3 = nI c.m := by rw [k29.1]; exact hm19
      refine xn_iconst (q := 44) 0 dX9_solveAll_43 rfl (by decide) ?_
      refine x_istore_n (q := 45) (ls' := [(0, _), (1, _), (2, _)]) [1, 2, 0] dX9_solveAll_44 rfl (by decide) rfl ?_
      refine c_sol_k G l o as M0 N S (d + 1) σ29 c.m m3 hm29 (stA c) (hok.2 hlb) _ (fun σ39 M k39 m39 r39 hM => ?_) (4 * c.m) 0 (Nat.zero_add _) σ29 M kc.rfl' (k29.mat ms19) r29 (by show (1 : Int).natAbs < B9 ^ 24; decide) hM
      refine x_aload_n (q := 130) dX9_solveAll_129 rfl rfl ?_
      refine xn_bipush (q := 132) 9 dX9_solveAll_130 rfl (by decide) ?_
      refine xn_bipush (q := 134) 10 dX9_solveAll_132 rfl (by decide) ?_
      refine m_call (q := 137) (As := [_, _]) hM imX9_copy ivX9_copy ilX9_copy mwX9_107 xciX9 dX9_solveAll_134 rfl rfl rfl (Nat.le_of_ble_eq_true rfl) ?_
      refine (c_copy G l o as M0 N S (d + 4) 9 10 (by decide) (by decide) (by decide) σ39 _ r39).mono (fun x σ49 hp => ?_)
      obtain ⟨rfl, k49, r49⟩ := hp
      intro M hM
      show xX G l _ (d + 5) _ _ _ [] M N S
      have oS : onlyS σ19 σ49 := (k29.os.trans k39.os).trans k49.os
      have qF : onlyQ σ σ49 := ((q10.trans o9.q).trans o19.q).trans oS.q
      have f22 : σ49.1 22 = 1 := by rw [oS.1 22 (by decide), o19.1 22 (by decide), o9.1 22 (by decide) (by decide) (by decide)]; exact e10
      have lsF : Lsd σ49 c := (ls9.s o19).s oS
      have mF : Mat σ49 _ := k49.mat m39
      have rF := r49
      exact x_vret rfl dX9_solveAll_137 (m_ret hM ⟨rfl, qF, qF.cf hc, f22, lsF, fun _ => ⟨mF, rF⟩⟩)
    · have hlb : looseB c = true := bI_ne.mp hc21
      exact x_vret rfl dX9_solveAll_24 (m_ret hM ⟨rfl, q10.trans o9.q, o9.cf (q10.cf hc), by rw [o9.1 22 (by decide) (by decide) (by decide)]; exact e10, ls9, fun h => by rw [hlb] at h; exact absurd h (by decide)⟩)
  · refine x_aload_n (q := 1) dX9_solveAll_0 rfl rfl ?_
    refine m_get (q := 4) hM 22 fwX9_205 (by decide) dX9_solveAll_1 rfl rfl ?_
    rw [hf]
    refine x_if_eq (q := 7) 8 dX9_solveAll_4 (by decide) rfl (fun hc4 => absurd hc4 (by decide)) (fun hc4 => ?_)
    exact x_vret rfl dX9_solveAll_7 (m_ret hM ⟨rfl, onlyQ.rfl', hc, hf, hs⟩)
end XQ1
