section XI
def bd (K : Int) (T : Nat → Int) : Prop := ∀ j, -K ≤ T j ∧ T j ≤ K
theorem bd.add {K Z z : Int} {T : Nat → Int} {i : Nat} (h : bd K T) (h1 : -Z ≤ z) (h2 : z ≤ Z) : bd (K + Z) (addT T i z) := fun j => by
  have := h j
  unfold addT
  split <;> omega
theorem bd.mono {K K' : Int} {T : Nat → Int} (h : bd K T) (hk : K ≤ K') : bd K' T := fun j => by have := h j; omega
theorem sq_le {x K : Int} (h1 : 0 ≤ x) (h2 : x ≤ K) : 0 ≤ x * x ∧ x * x ≤ K * K := ⟨Int.mul_nonneg h1 h1, Int.mul_le_mul h2 h2 h1 (by omega)⟩
theorem cu_le {x K : Int} (h1 : 0 ≤ x) (h2 : x ≤ K) : 0 ≤ x * x * x ∧ x * x * x ≤ K * K * K := ⟨Int.mul_nonneg (sq_le h1 h2).1 h1, Int.mul_le_mul (sq_le h1 h2).2 h2 h1 (Int.mul_nonneg (by omega) (by omega))⟩
theorem ml_le {x y K J : Int} (h1 : 0 ≤ x) (h2 : x ≤ K) (h3 : 0 ≤ y) (h4 : y ≤ J) : 0 ≤ x * y ∧ x * y ≤ K * J := ⟨Int.mul_nonneg h1 h3, Int.mul_le_mul h2 h4 h3 (by omega)⟩
theorem pow_bd {c : mCf} {b p kind : Nat} (hb : c.L b ≤ 12) (hp : p ≤ 4) (hp1 : 1 ≤ p) : 0 ≤ powP kind (behP c b p) ∧ powP kind (behP c b p) ≤ 46656 := by
  have h : 0 ≤ behP c b p ∧ behP c b p ≤ 36 := by
    unfold behP
    have := ml_le (x := (c.L b : Int)) (y := 4 - (p : Int)) (K := 12) (J := 3) (by omega) (by omega) (by omega) (by omega)
    omega
  have h2 := sq_le h.1 h.2
  have h3 := cu_le h.1 h.2
  unfold powP
  split
  · omega
  · split
    · omega
    · split
      · omega
      · omega
theorem loads_bd {c : mCf} {r b kind : Nat} {T : Nat → Int} {K : Int} {by0 : Int} (hb : c.L b ≤ 12) (h1 : by0 = 1 ∨ by0 = -1) (h : bd K T) : bd (K + 139968) (loadsP c r T b kind by0) := by
  have p1 := pow_bd (c := c) (kind := kind) hb (show 1 ≤ 4 by decide) (by decide)
  have p2 := pow_bd (c := c) (kind := kind) hb (show 2 ≤ 4 by decide) (by decide)
  have p3 := pow_bd (c := c) (kind := kind) hb (show 3 ≤ 4 by decide) (by decide)
  unfold loadsP
  refine bd.mono (((h.add (Z := 46656) ?_ ?_).add (Z := 46656) ?_ ?_).add (Z := 46656) ?_ ?_) (by omega)
  all_goals (rcases h1 with e | e <;> subst e <;> omega)
theorem rMove_bd {c : mCf} {r b : Nat} {T : Nat → Int} {K : Int} (hb : c.L b ≤ 12) (he : c.E b ≤ 12) (h : bd K T) : bd (K + 500000) (rMoveP c r T b) := by
  have q1 := ml_le (x := (c.E b : Int)) (y := (c.L b : Int)) (K := 12) (J := 12) (by omega) (by omega) (by omega) (by omega)
  have q2 := sq_le (x := (c.L b : Int)) (K := 12) (by omega) (by omega)
  have q3 := cu_le (x := (c.L b : Int)) (K := 12) (by omega) (by omega)
  unfold rMoveP
  refine bd.mono (loads_bd hb (Or.inl rfl) ((((h.add (Z := 4608) (by omega) (by omega)).add (Z := 55296) ?_ ?_).add (Z := 27648) ?_ ?_).add (Z := 110592) ?_ ?_)) (by omega)
  · rw [Int.mul_assoc]; omega
  · rw [Int.mul_assoc]; omega
  · rw [Int.mul_assoc]; omega
  · rw [Int.mul_assoc]; omega
  · rw [Int.mul_assoc, Int.mul_assoc, ← Int.mul_assoc (c.L b : Int)]; omega
  · rw [Int.mul_assoc, Int.mul_assoc, ← Int.mul_assoc (c.L b : Int)]; omega
theorem rTurn_bd {c : mCf} {r b : Nat} {T : Nat → Int} {K : Int} (hb : c.L b ≤ 12) (he : c.E b ≤ 12) (h : bd K T) : bd (K + 500000) (rTurnP c r T b) := by
  have q2 := sq_le (x := (c.L b : Int)) (K := 12) (by omega) (by omega)
  unfold rTurnP
  refine bd.mono (loads_bd hb (Or.inl rfl) (((h.add (Z := 384) (by omega) (by omega)).add (Z := 384) (by omega) (by omega)).add (Z := 2304) ?_ ?_)) (by omega)
  · rw [Int.mul_assoc]; omega
  · rw [Int.mul_assoc]; omega
theorem rMom_bd {c : mCf} {r b : Nat} {T : Nat → Int} {K : Int} (hb : c.L b ≤ 12) (h : bd K T) : bd (K + 500000) (rMomP c r T b 1) := by
  unfold rMomP
  exact bd.mono (loads_bd hb (Or.inr rfl) ((h.add (Z := 4) (by omega) (by omega)).add (Z := 48) (by omega) (by omega))) (by omega)
theorem height_bd {c : mCf} (ok : okCf c) {r node : Nat} {T : Nat → Int} {K : Int} (hn : node ≤ c.m) (hK : 0 ≤ K) (h : bd K T) : bd (K + 10000000) (heightP c T r node).1 := by
  obtain ⟨m1, m3, okL, okE, okS⟩ := ok
  have hL := (okL (node - 1) (by omega)).2
  have hE := (okE (node - 1) (by omega)).2
  have hS := okS node (by omega)
  have hES : -4608000 ≤ 384 * (c.E (node - 1) : Int) * c.Se node ∧ 384 * (c.E (node - 1) : Int) * c.Se node ≤ 4608000 := by
    rw [Int.mul_assoc]
    have e1 : (c.E (node - 1) : Int) * c.Se node ≤ 12 * 1000 := by
      rcases (show 0 ≤ c.Se node ∨ c.Se node < 0 by omega) with e | e
      · exact (ml_le (by omega) (by omega) e hS.2).2
      · have := (ml_le (x := (c.E (node - 1) : Int)) (y := -c.Se node) (K := 12) (J := 1000) (by omega) (by omega) (by omega) (by omega)).1
        rw [Int.mul_neg] at this
        omega
    have e2 : -(12 * 1000) ≤ (c.E (node - 1) : Int) * c.Se node := by
      rcases (show 0 ≤ c.Se node ∨ c.Se node < 0 by omega) with e | e
      · have := (ml_le (x := (c.E (node - 1) : Int)) (y := c.Se node) (K := 12) (J := 1000) (by omega) (by omega) (by omega) (by omega)).1
        omega
      · have := (ml_le (x := (c.E (node - 1) : Int)) (y := -c.Se node) (K := 12) (J := 1000) (by omega) (by omega) (by omega) (by omega)).2
        rw [Int.mul_neg] at this
        omega
    omega
  have hA : bd (K + 600000) (if 0 < node ∧ node < c.m then (addT (rMoveP c r T (node - 1)) (28 * r + 4 * node) (-384 * c.E (node - 1)), r + 1) else (T, r)).1 := by
    split
    · exact bd.mono ((rMove_bd hL hE h).add (Z := 4608) (by omega) (by omega)) (by omega)
    · exact bd.mono h (by omega)
  unfold heightP
  dsimp only
  generalize (if 0 < node ∧ node < c.m then (addT (rMoveP c r T (node - 1)) (28 * r + 4 * node) (-384 * c.E (node - 1)), r + 1) else (T, r)) = A at *
  split
  · split
    · exact bd.mono ((hA.add (Z := 1) (by omega) (by omega)).add (Z := 1000) (by omega) (by omega)) (by omega)
    · exact bd.mono ((rMove_bd hL hE hA).add (Z := 4608000) (by omega) (by omega)) (by omega)
  · have hC : bd (K + 600002) (if node < c.m then addT (addT A.1 (28 * A.2 + (4 * node + 3)) 1) (28 * A.2 + colP c node 0) (-1) else A.1) := by
      split
      · exact bd.mono ((hA.add (Z := 1) (by omega) (by omega)).add (Z := 1) (by omega) (by omega)) (by omega)
      · exact bd.mono hA (by omega)
    split
    · exact bd.mono ((loads_bd hL (Or.inl rfl) (hC.add (Z := 1) (by omega) (by omega))).add (Z := 1) (by omega) (by omega)) (by omega)
    · exact bd.mono hC (by omega)
theorem turn_bd {c : mCf} (ok : okCf c) {r node : Nat} {T : Nat → Int} {K : Int} (hn : node ≤ c.m) (h : bd K T) : bd (K + 10000000) (turnP c T r node).1 := by
  obtain ⟨m1, m3, okL, okE, okS⟩ := ok
  have hL := (okL (node - 1) (by omega)).2
  have hE := (okE (node - 1) (by omega)).2
  unfold turnP
  dsimp only
  have hA : bd (K + 500000) (if (decide (0 < node) && c.Hg (2 * node - 1)) = true then (rMomP c r T (node - 1) 1, r + 1) else (T, r)).1 := by
    split
    · exact rMom_bd hL h
    · exact bd.mono h (by omega)
  generalize (if (decide (0 < node) && c.Hg (2 * node - 1)) = true then (rMomP c r T (node - 1) 1, r + 1) else (T, r)) = A at *
  have hB : bd (K + 500001) (if (decide (node < c.m) && c.Hg (2 * node)) = true then (addT A.1 (28 * A.2 + (4 * node + 2)) 1, A.2 + 1) else A).1 := by
    split
    · exact bd.mono (hA.add (Z := 1) (by omega) (by omega)) (by omega)
    · exact bd.mono hA (by omega)
  generalize (if (decide (node < c.m) && c.Hg (2 * node)) = true then (addT A.1 (28 * A.2 + (4 * node + 2)) 1, A.2 + 1) else A) = B at *
  split
  · exact bd.mono hB (by omega)
  · split
    · have hC : bd (K + 1000001) (if (decide (0 < node) && !c.Hg (2 * node - 1)) = true then (rTurnP c B.2 B.1 (node - 1), B.2 + 1) else B).1 := by
        split
        · exact bd.mono (rTurn_bd hL hE hB) (by omega)
        · exact bd.mono hB (by omega)
      generalize (if (decide (0 < node) && !c.Hg (2 * node - 1)) = true then (rTurnP c B.2 B.1 (node - 1), B.2 + 1) else B) = C at *
      split
      · exact bd.mono (hC.add (Z := 1) (by omega) (by omega)) (by omega)
      · exact bd.mono hC (by omega)
    · have hC : bd (K + 1010001) (if ((decide (0 < node) && !c.Hg (2 * node - 1)) && (decide (node < c.m) && !c.Hg (2 * node))) = true then (addT (rTurnP c B.2 B.1 (node - 1)) (28 * B.2 + (4 * node + 1)) (-32 * c.E (node - 1)), B.2 + 1) else B).1 := by
        split
        · exact bd.mono ((rTurn_bd hL hE hB).add (Z := 384) (by omega) (by omega)) (by omega)
        · exact bd.mono hB (by omega)
      generalize (if ((decide (0 < node) && !c.Hg (2 * node - 1)) && (decide (node < c.m) && !c.Hg (2 * node))) = true then (addT (rTurnP c B.2 B.1 (node - 1)) (28 * B.2 + (4 * node + 1)) (-32 * c.E (node - 1)), B.2 + 1) else B) = C at *
      have hD : bd (K + 1510001) (if (decide (0 < node) && !c.Hg (2 * node - 1)) = true then rMomP c C.2 C.1 (node - 1) 1 else C.1) := by
        split
        · exact bd.mono (rMom_bd hL hC) (by omega)
        · exact bd.mono hC (by omega)
      split
      · exact bd.mono (hD.add (Z := 4) (by omega) (by omega)) (by omega)
      · exact bd.mono hD (by omega)
theorem height_r (c : mCf) (T : Nat → Int) (r node : Nat) : (heightP c T r node).2 = r + (if 0 < node ∧ node < c.m then 2 else 1) := by
  unfold heightP
  dsimp only
  split <;> rfl
theorem turn_r {c : mCf} (hm : 1 ≤ c.m) (T : Nat → Int) (r node : Nat) (hn : node ≤ c.m) : (turnP c T r node).2 = r + (if 0 < node ∧ node < c.m then 2 else 1) := by
  by_cases h0 : 0 < node <;> by_cases hR : node < c.m <;> cases hl : c.Hg (2 * node - 1) <;> cases hg : c.Hg (2 * node) <;> cases hU : c.Tu node
  all_goals first
    | exact absurd hR (by omega)
    | (simp [turnP, h0, hR, hl, hg, hU])
/-- the rows of the system, node by node -/
def stT (c : mCf) : Nat → (Nat → Int) × Nat
  | 0 => (fun _ => 0, 0)
  | k + 1 => turnP c (heightP c (stT c k).1 (stT c k).2 k).1 (heightP c (stT c k).1 (stT c k).2 k).2 k
theorem stT_r {c : mCf} (hm : 1 ≤ c.m) : ∀ k, k ≤ c.m → (stT c k).2 = if k = 0 then 0 else 4 * k - 2
  | 0, _ => rfl
  | k + 1, hk => by
    have ih := stT_r hm k (by omega)
    show (turnP c _ _ k).2 = _
    rw [turn_r hm _ _ _ (by omega), height_r, ih]
    by_cases h0 : k = 0
    · subst h0; simp
    · rw [if_neg h0, if_pos (show 0 < k ∧ k < c.m by omega), if_neg (show ¬ k + 1 = 0 by omega)]; omega
theorem stT_bd {c : mCf} (ok : okCf c) : ∀ k, k ≤ c.m + 1 → bd (k * 20000000) (stT c k).1
  | 0, _ => fun j => by show -_ ≤ (0 : Int) ∧ (0 : Int) ≤ _; omega
  | k + 1, hk => by
    have ih := stT_bd ok k (by omega)
    exact bd.mono (turn_bd ok (by omega) (height_bd ok (by omega) (by omega) ih)) (by omega)
def onlyS (σ σ' : mS) : Prop := (∀ k, k ≠ 21 → σ'.1 k = σ.1 k) ∧ (∀ k, k ≠ 14 → k ≠ 15 → k ≠ 16 → k ≠ 17 → k ≠ 18 → k ≠ 19 → σ'.2.1 k = σ.2.1 k) ∧ (∀ k, k ≠ 20 → σ'.2.2 k = σ.2.2 k)
theorem onlyTC.s {σ σ' : mS} (h : onlyTC σ σ') : onlyS σ σ' := ⟨h.1, fun k _ _ _ _ _ _ => by rw [h.2.1], h.2.2⟩
theorem onlyS.trans {σ σ' σ'' : mS} (h : onlyS σ σ') (h2 : onlyS σ' σ'') : onlyS σ σ'' := ⟨fun k hk => (h2.1 k hk).trans (h.1 k hk), fun k a b c d e f => (h2.2.1 k a b c d e f).trans (h.2.1 k a b c d e f), fun k hk => (h2.2.2 k hk).trans (h.2.2 k hk)⟩
theorem keep.os {b : Nat} {σ σ' : mS} (h : keep b σ σ') : onlyS σ σ' := ⟨fun k _ => by rw [h.1], fun k a b c _ _ _ => h.2.2.1 k a b c, fun k _ => by rw [h.2.1]⟩
theorem keeps.os {b : List Nat} {σ σ' : mS} (h : keeps b σ σ') : onlyS σ σ' := ⟨fun k _ => by rw [h.1], fun k a b c _ _ _ => h.2.2.1 k a b c, fun k _ => by rw [h.2.1]⟩
theorem keepc.os {b : Nat} {σ σ' : mS} (h : keepc b σ σ') : onlyS σ σ' := ⟨fun k _ => by rw [h.1], fun k _ _ _ a b c => h.2.2.1 k a b c, fun k _ => by rw [h.2.1]⟩
theorem onlyS.cf {σ σ' : mS} {c : mCf} (h : onlyS σ σ') (hc : Cf σ c) : Cf σ' c := by
  unfold Cf at *
  rw [h.1 3 (by decide), h.2.1 4 (by decide) (by decide) (by decide) (by decide) (by decide) (by decide), h.2.1 5 (by decide) (by decide) (by decide) (by decide) (by decide) (by decide), h.2.1 6 (by decide) (by decide) (by decide) (by decide) (by decide) (by decide), h.2.1 7 (by decide) (by decide) (by decide) (by decide) (by decide) (by decide), h.2.1 8 (by decide) (by decide) (by decide) (by decide) (by decide) (by decide), h.2.1 9 (by decide) (by decide) (by decide) (by decide) (by decide) (by decide)]
  exact hc
set_option maxRecDepth 100000 in
set_option maxHeartbeats 4000000 in
theorem c_state_1 (G : xG) (l : Launch) (o : Nat) (as : Nat → Nat) (M0 : xM) (N S : Nat) (d : Nat) (σ : mS) (Q : xPost)
    (hx : ∀ σ' M, onlyT σ σ' → Td σ' (fun _ => 0) → mAt o as σ' M0 M → xX G l YX9_state d Q 22 [(0, .ref o), (1, .int (nI 336))] [] M N S) :
    ∀ (u i : Nat), i + u = 336 → ∀ σ' M, onlyT σ σ' → (∀ j, j < i → σ'.2.2 20 j = iL 0) → mAt o as σ' M0 M → xX G l YX9_state d Q 2 [(0, .ref o), (1, .int (nI i))] [] M N S := by
  intro u
  induction u with
  | zero =>
    intro i hi σ' M ho hj hM
    obtain rfl : i = 336 := by omega
    refine x_iload_n (q := 3) dX9_state_2 rfl rfl ?_
    refine xn_sipush (q := 6) 336 dX9_state_3 rfl (by decide) ?_
    refine xn_icmp_ge (q := 9) 22 dX9_state_6 (by decide) rfl (by omega) (by omega) (fun hc6 => ?_) (fun hc6 => absurd hc6 (by omega))
    exact hx σ' M ho (fun j h => hj j h) hM
  | succ u ih =>
    intro i hi σ' M ho hj hM
    refine x_iload_n (q := 3) dX9_state_2 rfl rfl ?_
    refine xn_sipush (q := 6) 336 dX9_state_3 rfl (by decide) ?_
    refine xn_icmp_ge (q := 9) 22 dX9_state_6 (by decide) rfl (by omega) (by omega) (fun hc6 => absurd hc6 (by omega)) (fun hc6 => ?_)
    refine x_aload_n (q := 10) dX9_state_9 rfl rfl ?_
    refine m_get (q := 13) hM 20 fwX9_59 (by decide) dX9_state_10 rfl rfl ?_
    refine x_iload_n (q := 14) dX9_state_13 rfl rfl ?_
    refine xn_lconst (q := 15) 0 dX9_state_14 rfl (by decide) ?_
    refine m_lastG (q := 16) hM (n := 336) (by decide) dX9_state_15 rfl (by omega) (fun M σ15 a15 b15 c15 e15 f15 hM => ?_)
    refine xn_iinc (q := 19) (ls' := [(0, _), (1, _)]) [1, 0] 1 dX9_state_16 rfl rfl (by decide) (by decide) rfl ?_
    refine x_goto 2 dX9_state_19 (by decide) ?_
    refine ih (i + 1) (by omega) σ15 M (ho.trans ⟨a15, b15, c15⟩) (fun j hjj => ?_) hM
    by_cases e : j = i
    · rw [e, e15]; rfl
    · rw [f15 j e]; exact hj j (by omega)
set_option maxRecDepth 100000 in
set_option maxHeartbeats 4000000 in
theorem c_state_2 (G : xG) (l : Launch) (o : Nat) (as : Nat → Nat) (M0 : xM) (N S : Nat) (d : Nat) (σ : mS) (c : mCf) (hc : Cf σ c) (Q : xPost)
    (hx : ∀ σ' M, onlyTC σ σ' → Td σ' (stT c (c.m + 1)).1 → mAt o as σ' M0 M → xX G l YX9_state (d + 4) Q 53 [(0, .ref o), (1, .int (nI (c.m + 1)))] [] M N S) :
    ∀ (u k : Nat), k + u = c.m + 1 → ∀ σ' M, onlyTC σ σ' → Td σ' (stT c k).1 → σ'.1 21 = nI (stT c k).2 → mAt o as σ' M0 M → xX G l YX9_state (d + 4) Q 29 [(0, .ref o), (1, .int (nI k))] [] M N S := by
  obtain ⟨ok, hm, -⟩ := id hc
  have m1 := ok.1
  have m3 := ok.2.1
  intro u
  induction u with
  | zero =>
    intro k hk σ' M ho ht hr hM
    obtain rfl : k = c.m + 1 := by omega
    have hm' : σ'.1 3 = nI c.m := by rw [ho.1 3 (by decide)]; exact hm
    refine x_iload_n (q := 30) dX9_state_29 rfl rfl ?_
    refine x_aload_n (q := 31) dX9_state_30 rfl rfl ?_
    refine m_get (q := 34) hM 3 fwX9_93 (by decide) dX9_state_31 rfl rfl ?_
    rw [hm']
    refine xn_icmp_gt (q := 37) 53 dX9_state_34 (by decide) rfl (by omega) (by omega) (fun hc34 => ?_) (fun hc34 => absurd hc34 (by omega))
    exact hx σ' M ho ht hM
  | succ u ih =>
    intro k hk σ' M ho ht hr hM
    have hm' : σ'.1 3 = nI c.m := by rw [ho.1 3 (by decide)]; exact hm
    have hrk := stT_r m1 k (by omega)
    have hr10 : (stT c k).2 ≤ 10 ∧ (0 < k → k < c.m → (stT c k).2 ≤ 8) := by
      rw [hrk]; split <;> omega
    have hrh := height_r c (stT c k).1 (stT c k).2 k
    have hr11 : (heightP c (stT c k).1 (stT c k).2 k).2 ≤ 11 ∧ (0 < k → k < c.m → (heightP c (stT c k).1 (stT c k).2 k).2 ≤ 10) := by
      rw [hrh, hrk]
      by_cases h0 : k = 0
      · subst h0; simp
      · rw [if_neg h0]; split <;> omega
    refine x_iload_n (q := 30) dX9_state_29 rfl rfl ?_
    refine x_aload_n (q := 31) dX9_state_30 rfl rfl ?_
    refine m_get (q := 34) hM 3 fwX9_93 (by decide) dX9_state_31 rfl rfl ?_
    rw [hm']
    refine xn_icmp_gt (q := 37) 53 dX9_state_34 (by decide) rfl (by omega) (by omega) (fun hc34 => absurd hc34 (by omega)) (fun hc34 => ?_)
    refine x_aload_n (q := 38) dX9_state_37 rfl rfl ?_
    refine x_iload_n (q := 39) dX9_state_38 rfl rfl ?_
    refine m_call (q := 42) (As := [_]) hM imX9_heightAt ivX9_heightAt ilX9_heightAt mwX9_186 xciX9 dX9_state_39 rfl rfl rfl (Nat.le_of_ble_eq_true rfl) ?_
    refine (c_heightAt G l o as M0 N S d σ' c (stT c k).2 k (stT c k).1 (ho.cf hc) hr hr10.1 hr10.2 (by omega) ht).mono (fun x σ9 hp => ?_)
    obtain ⟨rfl, o9, t9, r9⟩ := hp
    intro M hM
    show xX G l _ (d + 4) _ _ _ [] M N S
    refine x_aload_n (q := 43) dX9_state_42 rfl rfl ?_
    refine x_iload_n (q := 44) dX9_state_43 rfl rfl ?_
    refine m_call (q := 47) (As := [_]) hM imX9_turningAt ivX9_turningAt ilX9_turningAt mwX9_189 xciX9 dX9_state_44 rfl rfl rfl (Nat.le_of_ble_eq_true rfl) ?_
    refine (c_turningAt G l o as M0 N S d σ9 c _ k _ ((ho.trans o9).cf hc) r9 hr11.1 hr11.2 (by omega) t9).mono (fun x σ19 hp => ?_)
    obtain ⟨rfl, o19, t19, r19⟩ := hp
    intro M hM
    show xX G l _ (d + 4) _ _ _ [] M N S
    refine xn_iinc (q := 50) (ls' := [(0, _), (1, _)]) [1, 0] 1 dX9_state_47 rfl rfl (by decide) (by decide) rfl ?_
    refine x_goto 29 dX9_state_50 (by decide) ?_
    exact ih (k + 1) (by omega) σ19 M ((ho.trans o9).trans o19) t19 r19 hM
set_option maxRecDepth 100000 in
set_option maxHeartbeats 4000000 in
theorem c_state_3 (G : xG) (l : Launch) (o : Nat) (as : Nat → Nat) (M0 : xM) (N S : Nat) (d : Nat) (σ : mS) (T : Nat → Int) (hT : Td σ T) (hb : bd 1000000000 T) (Q : xPost)
    (hx : ∀ σ' M, onlyS σ σ' → (∀ j, j < 336 → Cel σ' j (T j)) → mAt o as σ' M0 M → xX G l YX9_state (d + 1) Q 85 [(0, .ref o), (1, .int (nI 336))] [] M N S) :
    ∀ (u k : Nat), k + u = 336 → ∀ σ' M, onlyS σ σ' → σ'.2.2 20 = σ.2.2 20 → (∀ j, j < k → Cel σ' j (T j)) → mAt o as σ' M0 M → xX G l YX9_state (d + 1) Q 55 [(0, .ref o), (1, .int (nI k))] [] M N S := by
  intro u
  induction u with
  | zero =>
    intro k hk σ' M ho h20 hj hM
    obtain rfl : k = 336 := by omega
    refine x_iload_n (q := 56) dX9_state_55 rfl rfl ?_
    refine xn_sipush (q := 59) 336 dX9_state_56 rfl (by decide) ?_
    refine xn_icmp_ge (q := 62) 85 dX9_state_59 (by decide) rfl (by omega) (by omega) (fun hc59 => ?_) (fun hc59 => absurd hc59 (by omega))
    exact hx σ' M ho hj hM
  | succ u ih =>
    intro k hk σ' M ho h20 hj hM
    have hTk : σ'.2.2 20 k = iL (T k) := by rw [h20]; exact hT k (by omega)
    have hbk := hb k
    refine x_iload_n (q := 56) dX9_state_55 rfl rfl ?_
    refine xn_sipush (q := 59) 336 dX9_state_56 rfl (by decide) ?_
    refine xn_icmp_ge (q := 62) 85 dX9_state_59 (by decide) rfl (by omega) (by omega) (fun hc59 => absurd hc59 (by omega)) (fun hc59 => ?_)
    refine x_aload_n (q := 63) dX9_state_62 rfl rfl ?_
    refine xn_iconst (q := 64) 0 dX9_state_63 rfl (by decide) ?_
    refine x_aload_n (q := 65) dX9_state_64 rfl rfl ?_
    refine m_get (q := 68) hM 20 fwX9_59 (by decide) dX9_state_65 rfl rfl ?_
    refine x_iload_n (q := 69) dX9_state_68 rfl rfl ?_
    refine m_lald (q := 70) hM (n := 336) (by decide) dX9_state_69 rfl (by omega) ?_
    rw [hTk]
    refine m_call (q := 73) (As := [_, _]) hM imX9_put ivX9_put ilX9_put mwX9_121 xciX9 dX9_state_70 rfl rfl rfl (Nat.le_of_ble_eq_true rfl) ?_
    refine (c_put G l o as M0 N S d 0 (by decide) (iL (T k)) (T k) (iL_t (by omega) (by omega)) (by omega) σ').mono (fun x σ9 hp => ?_)
    obtain ⟨rfl, k9, r9⟩ := hp
    intro M hM
    show xX G l _ (d + 1) _ _ _ [] M N S
    refine x_aload_n (q := 74) dX9_state_73 rfl rfl ?_
    refine xn_iconst (q := 75) 0 dX9_state_74 rfl (by decide) ?_
    refine x_iload_n (q := 76) dX9_state_75 rfl rfl ?_
    refine m_call (q := 79) (As := [_, _]) hM imX9_store ivX9_store ilX9_store mwX9_192 xciX9 dX9_state_76 rfl rfl rfl (Nat.le_of_ble_eq_true rfl) ?_
    refine (c_store G l o as M0 N S d 0 k (by decide) (by omega) σ9 (T k) r9 (Nat.lt_of_lt_of_le (show (T k).natAbs < B9 ^ 2 from Nat.lt_of_le_of_lt (show (T k).natAbs ≤ 1000000000 by omega) (by decide)) (B9_mono (by decide)))).mono (fun x σ19 hp => ?_)
    obtain ⟨rfl, k19, r19⟩ := hp
    intro M hM
    show xX G l _ (d + 1) _ _ _ [] M N S
    refine xn_iinc (q := 82) (ls' := [(0, _), (1, _)]) [1, 0] 1 dX9_state_79 rfl rfl (by decide) (by decide) rfl ?_
    refine x_goto 55 dX9_state_82 (by decide) ?_
    refine ih (k + 1) (by omega) σ19 M ((ho.trans k9.os).trans (keepc.os k19)) (by rw [k19.2.1, k9.2.1]; exact h20) (fun j hjj => ?_) hM
    by_cases e : j = k
    · rw [e]; exact r19
    · refine k19.num e ?_
      obtain ⟨m, a1, a2, a3, a4, a5⟩ := hj j (by omega)
      exact ⟨m, a1, a2, by rw [k9.2.2.1 18 (by decide) (by decide) (by decide)]; exact a3, by rw [k9.2.2.1 19 (by decide) (by decide) (by decide)]; exact a4, fun i hi => by rw [k9.2.2.1 17 (by decide) (by decide) (by decide)]; exact a5 i hi⟩
set_option maxRecDepth 100000 in
set_option maxHeartbeats 4000000 in
theorem c_state (G : xG) (l : Launch) (o : Nat) (as : Nat → Nat) (M0 : xM) (N S : Nat) (d : Nat) (σ : mS) (c : mCf) (hc : Cf σ c) : mC G l o as M0 N S YX9_state (d + 4) [] σ (fun x σ' => x = none ∧ onlyS σ σ' ∧ ∀ j, j < 336 → Cel σ' j ((stT c (c.m + 1)).1 j)) := by
  obtain ⟨ok, hm, -⟩ := id hc
  have m3 := ok.2.1
  have hbd : bd 1000000000 (stT c (c.m + 1)).1 := bd.mono (stT_bd ok (c.m + 1) (Nat.le_refl _)) (by omega)
  refine mC.of (ls := [(0, .ref o)]) (by decide) (Nat.le_of_ble_eq_true rfl) rfl fun M hM => ?_
  refine xn_iconst (q := 1) 0 dX9_state_0 rfl (by decide) ?_
  refine x_istore_n (q := 2) (ls' := [(0, _), (1, _)]) [1, 0] dX9_state_1 rfl (by decide) rfl ?_
  refine c_state_1 G l o as M0 N S (d + 4) σ _ (fun σ1 M o1 t1 hM => ?_) 336 0 (Nat.zero_add _) σ M onlyT.rfl' (fun j h => absurd h (Nat.not_lt_zero j)) hM
  refine x_aload_n (q := 23) dX9_state_22 rfl rfl ?_
  refine xn_iconst (q := 24) 0 dX9_state_23 rfl (by decide) ?_
  refine m_putG (q := 27) hM 21 fwX9_139 (by decide) rfl rfl rfl dX9_state_24 rfl rfl rfl (fun M σ24 a24 e24 b24 hM => ?_)
  refine xn_iconst (q := 28) 0 dX9_state_27 rfl (by decide) ?_
  refine x_istore_n (q := 29) (ls' := [(0, _), (1, _)]) [1, 0] dX9_state_28 rfl (by decide) rfl ?_
  have o2 : onlyTC σ σ24 := o1.c.trans (onlyTC.inc a24 b24)
  refine c_state_2 G l o as M0 N S d σ24 c (o2.cf hc) _ (fun σ3 M o3 t3 hM => ?_) (c.m + 1) 0 (Nat.zero_add _) σ24 M onlyTC.rfl' (t1.same b24) e24 hM
  refine xn_iconst (q := 54) 0 dX9_state_53 rfl (by decide) ?_
  refine x_istore_n (q := 55) (ls' := [(0, _), (1, _)]) [1, 0] dX9_state_54 rfl (by decide) rfl ?_
  refine c_state_3 G l o as M0 N S (d + 3) σ3 _ t3 hbd _ (fun σ4 M o4 c4 hM => ?_) 336 0 (Nat.zero_add _) σ3 M ⟨fun _ _ => rfl, fun _ _ _ _ _ _ _ => rfl, fun _ _ => rfl⟩ rfl (fun j h => absurd h (Nat.not_lt_zero j)) hM
  exact x_vret rfl dX9_state_85 (m_ret hM ⟨rfl, ((o2.trans o3).s).trans o4, c4⟩)
end XI
