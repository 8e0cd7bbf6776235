section XO
/-- the same in the first n rows -/
def eqR (n : Nat) (W V : Nat → Nat → Int) : Prop := ∀ i j, i < n → j < 6 → W i j = V i j
theorem eqR.piv {n : Nat} {W V : Nat → Nat → Int} (h : eqR n W V) {c : Nat} (hc : c < 6) : ∀ t k, k + t ≤ n → pivR W c t k = pivR V c t k
  | 0, _, _ => rfl
  | t + 1, k, hk => by
    unfold pivR
    rw [h k c (by omega) hc, eqR.piv h hc t (k + 1) (by omega)]
theorem eqR.sw {n : Nat} {W V : Nat → Nat → Int} (h : eqR n W V) {a b : Nat} (ha : a < n) (hb : b < n) : eqR n (swR W a b) (swR V a b) := fun i j hi hj => by
  unfold swR
  rw [h b j hb hj, h a j ha hj, h i j hi hj]
theorem gcdU_congr {f g : Nat → Int} : ∀ t, (∀ j, j < t → f j = g j) → gcdU f t = gcdU g t
  | 0, _ => rfl
  | t + 1, h => by
    show Nat.gcd (gcdU f t) (f t).natAbs = Nat.gcd (gcdU g t) (g t).natAbs
    rw [gcdU_congr t (fun j hj => h j (by omega)), h t (by omega)]
theorem eqR_clrV {n : Nat} {W V : Nat → Nat → Int} (h : eqR n W V) {i k c : Nat} (hi : i < n) (hk : k < n) (hc : c < 6) : ∀ j, j < 6 → clrV W i k c j = clrV V i k c j := fun j hj => by
  unfold clrV
  rw [h k c hk hc, h i j hi hj, h i c hi hc, h k j hk hj]
theorem eqR_clrM {n : Nat} {W V : Nat → Nat → Int} (h : eqR n W V) {i k c : Nat} (hi : i < n) (hk : k < n) (hc : c < 6) : eqR n (clrM W i k c) (clrM V i k c) := fun i' j hi' hj => by
  unfold clrM
  rw [gcdU_congr 6 (eqR_clrV h hi hk hc), eqR_clrV h hi hk hc j hj, h i' j hi' hj]
theorem eqR_clrs {n : Nat} {W V : Nat → Nat → Int} (h : eqR n W V) {r c : Nat} (hc : c < 6) : ∀ t, r + t < n → eqR n (clrs W r c t) (clrs V r c t)
  | 0, _ => h
  | t + 1, ht => eqR_clrM (eqR_clrs h hc t (by omega)) (by omega) (by omega) hc
theorem eqR_rkS {n : Nat} {W V : Nat → Nat → Int} (h : eqR n W V) : ∀ c, c ≤ 6 → (rkS W n c).2 = (rkS V n c).2 ∧ eqR n (rkS W n c).1 (rkS V n c).1
  | 0, _ => ⟨rfl, h⟩
  | c + 1, hc => by
    obtain ⟨i1, i2⟩ := eqR_rkS h c (by omega)
    have hle := rkS_le V n c
    have hpv := pivR_ge (rkS V n c).1 c (n - (rkS V n c).2) (rkS V n c).2
    have hp : pivR (rkS W n c).1 c (n - (rkS V n c).2) (rkS V n c).2 = pivR (rkS V n c).1 c (n - (rkS V n c).2) (rkS V n c).2 := i2.piv (by omega) _ _ (by omega)
    unfold rkS
    rw [i1, hp]
    split
    · exact ⟨i1, i2⟩
    · exact ⟨rfl, eqR_clrs (i2.sw (by omega) (by omega)) (by omega) _ (by omega)⟩
theorem eqR.ok {n : Nat} {W V : Nat → Nat → Int} (h : eqR n W V) (ho : rkOk V n) (hb : rkBd V n) : rkOk W n ∧ rkBd W n := by
  constructor
  · intro c hc
    obtain ⟨i1, i2⟩ := eqR_rkS h c (by omega)
    have hle := rkS_le V n c
    have hpv := pivR_ge (rkS V n c).1 c (n - (rkS V n c).2) (rkS V n c).2
    have hp : pivR (rkS W n c).1 c (n - (rkS V n c).2) (rkS V n c).2 = pivR (rkS V n c).1 c (n - (rkS V n c).2) (rkS V n c).2 := i2.piv (by omega) _ _ (by omega)
    rw [i1, hp]
    intro hne t ht j hj
    rw [eqR_clrV (eqR_clrs (i2.sw (by omega) (by omega)) (by omega) t (by omega)) (by omega) (by omega) (by omega) j hj]
    exact ho c hc hne t ht j hj
  · intro c hc i j hi hj
    rw [(eqR_rkS h c (by omega)).2 i j hi hj]
    exact hb c hc i j hi hj
def rkN (R : Nat → Nat → Int) (n : Nat) : Nat := (rkS R n 6).2
def onlyLW (σ σ' : mS) : Prop := (∀ k, k ≠ 25 → σ'.1 k = σ.1 k) ∧ σ'.2.1 = σ.2.1 ∧ ∀ k, k ≠ 24 → k ≠ 26 → σ'.2.2 k = σ.2.2 k
theorem onlyLW.rfl' {σ : mS} : onlyLW σ σ := ⟨fun _ _ => rfl, rfl, fun _ _ _ => rfl⟩
theorem onlyLW.trans {σ σ' σ'' : mS} (h : onlyLW σ σ') (h2 : onlyLW σ' σ'') : onlyLW σ σ'' := ⟨fun k hk => (h2.1 k hk).trans (h.1 k hk), h2.2.1.trans h.2.1, fun k a b => (h2.2.2 k a b).trans (h.2.2 k a b)⟩
theorem onlyL.lw {σ σ' : mS} (h : onlyL σ σ') : onlyLW σ σ' := ⟨h.1, h.2.1, fun k a _ => h.2.2 k a⟩
theorem onlyW.lw {σ σ' : mS} (h : onlyW σ σ') : onlyLW σ σ' := ⟨fun k _ => by rw [h.1], h.2.1, fun k _ a => h.2.2 k a⟩
theorem onlyLW.cf {σ σ' : mS} {c : mCf} (h : onlyLW σ σ') (hc : Cf σ c) : Cf σ' c := by
  unfold Cf at *
  rw [h.1 3 (by decide), h.2.1]
  exact hc
theorem c_rankR (G : xG) (l : Launch) (o : Nat) (as : Nat → Nat) (M0 : xM) (N S : Nat) (d : Nat) (σ : mS) (R : Nat → Nat → Int) (m k : Nat) (hm : m ≤ 20) (hmk : m ≤ k) (hR : Lns σ R k) (ho : rkOk R m) (hb : rkBd R m) : mC G l o as M0 N S YX9_rank (d + 2) [.int (nI m)] σ (fun x σ' => onlyW σ σ' ∧ x = some (.int (nI (rkN R m)))) :=
  (c_rank G l o as M0 N S d σ R m k hm hmk hR (fun W hW => eqR.ok (fun i j hi hj => hW i j hi hj) ho hb)).mono (fun x σ' hp => by
    obtain ⟨h1, W, h2, h3⟩ := hp
    refine ⟨h1, ?_⟩
    rw [h3, (eqR_rkS (fun i j hi hj => h2 i j hi hj) 6 (by decide)).1]
    rfl)
set_option maxRecDepth 100000 in
set_option maxHeartbeats 4000000 in
theorem c_isFree (G : xG) (l : Launch) (o : Nat) (as : Nat → Nat) (M0 : xM) (N S : Nat) (d : Nat) (σ : mS) (a b : Nat) (x y : Int64) (X Y : Int) (hX : x = iL X) (hY : y = iL Y) (ha : a < 6) (hb : b < 6) (rk n : Nat) (hrk : rk < 2147483648) (hn : n < 20) (R : Nat → Nat → Int) (hR : Lns σ R n) (hok : rkOk (addL R n (lineV a X b Y 0 0)) (n + 1)) (hbd : rkBd (addL R n (lineV a X b Y 0 0)) (n + 1)) : mC G l o as M0 N S YX9_isFree (d + 3) [.int (nI a), .long x, .int (nI b), .long y, .int (nI rk)] σ (fun r σ' => r = some (.int (bI (decide (rk < rkN (addL R n (lineV a X b Y 0 0)) (n + 1))))) ∧ onlyLW σ σ' ∧ Lns σ' R n) := by
  have hrl := rkS_le (addL R n (lineV a X b Y 0 0)) (n + 1) 6
  refine mC.of (ls := [(0, .ref o), (1, .int (nI a)), (2, .long x), (4, .int (nI b)), (5, .long y), (7, .int (nI rk))]) (by decide) (Nat.le_of_ble_eq_true rfl) rfl fun M hM => ?_
  refine x_aload_n (q := 1) dX9_isFree_0 rfl rfl ?_
  refine x_iload_n (q := 2) dX9_isFree_1 rfl rfl ?_
  refine x_lload_n (q := 3) dX9_isFree_2 rfl rfl ?_
  refine x_iload (q := 5) dX9_isFree_3 rfl rfl ?_
  refine x_lload (q := 7) dX9_isFree_5 rfl rfl ?_
  refine xn_iconst (q := 8) 0 dX9_isFree_7 rfl (by decide) ?_
  refine xn_lconst (q := 9) 0 dX9_isFree_8 rfl (by decide) ?_
  refine m_call (q := 12) (As := [_, _, _, _, _, _]) hM imX9_line ivX9_line ilX9_line mwX9_234 xciX9 dX9_isFree_9 rfl rfl rfl (Nat.le_of_ble_eq_true rfl) ?_
  refine (c_line G l o as M0 N S (d + 2) σ a b 0 x y _ X Y 0 hX hY rfl ha hb (by decide) n hn R hR).mono (fun r σ9 hp => ?_)
  obtain ⟨rfl, o9, l9⟩ := hp
  intro M hM
  show xX G l _ (d + 3) _ _ _ [] M N S
  refine x_aload_n (q := 13) dX9_isFree_12 rfl rfl ?_
  refine x_aload_n (q := 14) dX9_isFree_13 rfl rfl ?_
  refine m_get (q := 17) hM 25 fwX9_224 (by decide) dX9_isFree_14 rfl rfl ?_
  rw [l9.1]
  refine m_call (q := 20) (As := [_]) hM imX9_rank ivX9_rank ilX9_rank mwX9_238 xciX9 dX9_isFree_17 rfl rfl rfl (Nat.le_of_ble_eq_true rfl) ?_
  refine (c_rankR G l o as M0 N S d σ9 _ (n + 1) (n + 1) (by omega) (Nat.le_refl _) l9 hok hbd).mono (fun r σ19 hp => ?_)
  obtain ⟨o19, rfl⟩ := hp
  intro M hM
  show xX G l _ (d + 3) _ _ _ [.int (nI (rkN (addL R n (lineV a X b Y 0 0)) (n + 1)))] M N S
  have hrl2 : rkN (addL R n (lineV a X b Y 0 0)) (n + 1) ≤ n + 1 := hrl.1
  have c19 : σ19.1 25 = nI (n + 1) := by rw [o19.1]; exact l9.1
  refine x_istore (q := 22) (ls' := [(0, _), (1, _), (2, _), (4, _), (5, _), (7, _), (8, _)]) [1, 2, 3, 4, 5, 6, 0] dX9_isFree_20 rfl (by decide) rfl ?_
  refine x_aload_n (q := 23) dX9_isFree_22 rfl rfl ?_
  refine x_dup (q := 24) dX9_isFree_23 rfl rfl ?_
  refine m_get (q := 27) hM 25 fwX9_224 (by decide) dX9_isFree_24 rfl rfl ?_
  rw [c19]
  refine xn_iconst (q := 28) 1 dX9_isFree_27 rfl (by decide) ?_
  refine xn_isub (q := 29) dX9_isFree_28 rfl (by omega) ?_
  refine m_putG (q := 32) hM 25 fwX9_224 (by decide) rfl rfl rfl dX9_isFree_29 rfl rfl rfl (fun M σ29 a29 e29 b29 hM => ?_)
  refine x_iload (q := 34) dX9_isFree_32 rfl rfl ?_
  refine x_iload (q := 36) dX9_isFree_34 rfl rfl ?_
  refine xn_icmp_le (q := 39) 43 dX9_isFree_36 (by decide) rfl (by omega) (by omega) (fun hc36 => ?_) (fun hc36 => ?_)
  · refine xn_iconst (q := 44) 0 dX9_isFree_43 rfl (by decide) ?_
    refine x_zret rfl (by decide) dX9_isFree_44 (m_ret hM ⟨?_, (o9.lw.trans o19.lw).trans ⟨a29, by rw [b29], fun k _ _ => by rw [b29]⟩, ?_⟩)
    · rw [decide_eq_false (Nat.not_lt.mpr hc36)]; rfl
    · refine ⟨e29, fun i j hi hj => ?_⟩
      rw [b29, o19.2.2 24 (by decide), l9.2 i j (by omega) hj]
      unfold addL; rw [if_neg (by omega)]
  · refine xn_iconst (q := 40) 1 dX9_isFree_39 rfl (by decide) ?_
    refine x_goto 44 dX9_isFree_40 (by decide) ?_
    refine x_zret rfl (by decide) dX9_isFree_44 (m_ret hM ⟨?_, (o9.lw.trans o19.lw).trans ⟨a29, by rw [b29], fun k _ _ => by rw [b29]⟩, ?_⟩)
    · rw [decide_eq_true hc36]; rfl
    · refine ⟨e29, fun i j hi hj => ?_⟩
      rw [b29, o19.2.2 24 (by decide), l9.2 i j (by omega) hj]
      unfold addL; rw [if_neg (by omega)]
def nlP (c : mCf) (R : Nat → Nat → Int) (n node : Nat) : (Nat → Nat → Int) × Nat :=
  let A : (Nat → Nat → Int) × Nat := if (decide (0 < node) && decide (node < c.m)) = true then (addL R n (lineV (2 * node - 2) 1 (2 * node - 2 + 1) (c.L (node - 1)) (2 * node) (-1)), n + 1) else (R, n)
  let B : (Nat → Nat → Int) × Nat := if c.Hi node = true then ((if decide (node < c.m) = true then addL A.1 A.2 (lineV (2 * node) 1 (2 * node) 0 0 0) else addL A.1 A.2 (lineV (2 * node - 2) 1 (2 * node - 2 + 1) (c.L (node - 1)) 0 0)), A.2 + 1) else A
  let one : Bool := decide (0 < node) && !c.Hg (2 * node - 1)
  let other : Bool := decide (node < c.m) && !c.Hg (2 * node)
  let C : (Nat → Nat → Int) × Nat := if (c.Tu node && one) = true then (addL B.1 B.2 (lineV (2 * node - 2 + 1) 1 0 0 0 0), B.2 + 1) else B
  let D : (Nat → Nat → Int) × Nat := if (c.Tu node && other) = true then (addL C.1 C.2 (lineV (2 * node + 1) 1 0 0 0 0), C.2 + 1) else C
  if (!c.Tu node && (one && other)) = true then (addL D.1 D.2 (lineV (2 * node - 2 + 1) 1 (2 * node + 1) (-1) 0 0), D.2 + 1) else D
set_option maxRecDepth 100000 in
set_option maxHeartbeats 4000000 in
theorem c_nodeLines (G : xG) (l : Launch) (o : Nat) (as : Nat → Nat) (M0 : xM) (N S : Nat) (d : Nat) (σ : mS) (c : mCf) (R : Nat → Nat → Int) (n node : Nat) (hc : Cf σ c) (hR : Lns σ R n) (hn : n + 4 ≤ 20) (hnode : node ≤ c.m) : mC G l o as M0 N S YX9_nodeLines (d + 1) [.int (nI node)] σ (fun x σ' => x = none ∧ onlyL σ σ' ∧ Lns σ' (nlP c R n node).1 (nlP c R n node).2) := by
  obtain ⟨ok, hm, hL, hE, hH, hHi, hTu, hSe⟩ := id hc
  obtain ⟨m1, m3, okL, okE, okS⟩ := ok
  have hHn := hHi node (by omega)
  have hTn := hTu node (by omega)
  have hHl : σ.2.1 6 (2 * node - 1) = bI (c.Hg (2 * node - 1)) := hH _ (by omega)
  have hHr : node < c.m → σ.2.1 6 (2 * node) = bI (c.Hg (2 * node)) := fun h => hH _ (by omega)
  have hL1 := hL (node - 1) (by omega)
  have okL1 := okL (node - 1) (by omega)
  refine mC.of (ls := [(0, .ref o), (1, .int (nI node))]) (by decide) (Nat.le_of_ble_eq_true rfl) rfl fun M hM => ?_
  by_cases h0 : 0 < node <;> by_cases hR0 : node < c.m
  · cases hB : c.Hi node <;> cases hl : c.Hg (2 * node - 1) <;> cases hg : c.Hg (2 * node) <;> cases hU : c.Tu node
    · refine x_iload_n (q := 1) dX9_nodeLines_0 rfl rfl ?_
      refine x_aload_n (q := 2) dX9_nodeLines_1 rfl rfl ?_
      refine m_get (q := 5) hM 3 fwX9_93 (by decide) dX9_nodeLines_2 rfl rfl ?_
      rw [(onlyL.rfl').1 3 (by decide), hm]
      refine xn_icmp_ge (q := 8) 12 dX9_nodeLines_5 (by decide) rfl (by omega) (by omega) (fun hc5 => absurd hc5 (by omega)) (fun hc5 => ?_)
      refine xn_iconst (q := 9) 1 dX9_nodeLines_8 rfl (by decide) ?_
      refine x_goto 13 dX9_nodeLines_9 (by decide) ?_
      refine x_istore_n (q := 14) (ls' := [(0, _), (1, _), (2, _)]) [1, 2, 0] dX9_nodeLines_13 rfl (by decide) rfl ?_
      refine xn_iconst (q := 15) 2 dX9_nodeLines_14 rfl (by decide) ?_
      refine x_iload_n (q := 16) dX9_nodeLines_15 rfl rfl ?_
      refine xn_imul (q := 17) dX9_nodeLines_16 rfl ?_
      refine xn_iconst (q := 18) 2 dX9_nodeLines_17 rfl (by decide) ?_
      refine xn_isub (q := 19) dX9_nodeLines_18 rfl (by omega) ?_
      refine x_istore_n (q := 20) (ls' := [(0, _), (1, _), (2, _), (3, _)]) [1, 2, 3, 0] dX9_nodeLines_19 rfl (by decide) rfl ?_
      refine x_iload_n (q := 21) dX9_nodeLines_20 rfl rfl ?_
      refine xn_if_le (q := 24) 52 dX9_nodeLines_21 (by decide) rfl (by omega) (fun hc21 => absurd hc21 (by omega)) (fun hc21 => ?_)
      refine x_iload_n (q := 25) dX9_nodeLines_24 rfl rfl ?_
      refine xn_if_eq (q := 28) 52 dX9_nodeLines_25 (by decide) rfl (by omega) (fun hc25 => absurd hc25 (by decide)) (fun hc25 => ?_)
      refine x_aload_n (q := 29) dX9_nodeLines_28 rfl rfl ?_
      refine x_iload_n (q := 30) dX9_nodeLines_29 rfl rfl ?_
      refine xn_lconst (q := 31) 1 dX9_nodeLines_30 rfl (by decide) ?_
      refine x_iload_n (q := 32) dX9_nodeLines_31 rfl rfl ?_
      refine xn_iconst (q := 33) 1 dX9_nodeLines_32 rfl (by decide) ?_
      refine xn_iadd (q := 34) dX9_nodeLines_33 rfl ?_
      refine x_aload_n (q := 35) dX9_nodeLines_34 rfl rfl ?_
      refine m_get (q := 38) hM 4 fwX9_13 (by decide) dX9_nodeLines_35 rfl rfl ?_
      refine x_iload_n (q := 39) dX9_nodeLines_38 rfl rfl ?_
      refine xn_iconst (q := 40) 1 dX9_nodeLines_39 rfl (by decide) ?_
      refine xn_isub (q := 41) dX9_nodeLines_40 rfl (by omega) ?_
      refine m_iald (q := 42) hM (n := 3) (by decide) dX9_nodeLines_41 rfl (by omega) ?_
      rw [(onlyL.rfl').2.1, hL1]
      refine xn_i2l (q := 43) dX9_nodeLines_42 rfl (by omega) ?_
      refine xn_iconst (q := 44) 2 dX9_nodeLines_43 rfl (by decide) ?_
      refine x_iload_n (q := 45) dX9_nodeLines_44 rfl rfl ?_
      refine xn_imul (q := 46) dX9_nodeLines_45 rfl ?_
      refine x_ldc2 (q := 49) (-1) dX9_nodeLines_46 rfl cwX9_176 ?_
      refine x_topl (y := iL (-1)) (by decide) ?_
      refine m_call (q := 52) (As := [_, _, _, _, _, _]) hM imX9_line ivX9_line ilX9_line mwX9_234 xciX9 dX9_nodeLines_49 rfl rfl rfl (Nat.le_of_ble_eq_true rfl) ?_
      refine (c_line G l o as M0 N S d σ (2 * node - 2) (2 * node - 2 + 1) (2 * node) _ _ _ (1) (c.L (node - 1)) (-1) (lN_i' _) (lN_i' _) rfl (by omega) (by omega) (by omega) (n) (by omega) _ hR).mono (fun x σc1 hp => ?_)
      obtain ⟨rfl, qc1, lc1⟩ := hp
      intro M hM
      have oc1 : onlyL σ σc1 := (onlyL.rfl').trans qc1
      show xX G l _ (d + 1) _ _ _ [] M N S
      refine x_aload_n (q := 53) dX9_nodeLines_52 rfl rfl ?_
      refine m_get (q := 56) hM 7 fwX9_23 (by decide) dX9_nodeLines_53 rfl rfl ?_
      refine x_iload_n (q := 57) dX9_nodeLines_56 rfl rfl ?_
      refine m_zald (q := 58) hM (n := 4) (by decide) dX9_nodeLines_57 rfl (by omega) ?_
      rw [(oc1).2.1, hHn, hB]
      refine x_if_eq (q := 61) 109 dX9_nodeLines_58 (by decide) rfl (fun hc58 => ?_) (fun hc58 => absurd (by decide) hc58)
      refine x_iload_n (q := 110) dX9_nodeLines_109 rfl rfl ?_
      refine xn_if_le (q := 113) 130 dX9_nodeLines_110 (by decide) rfl (by omega) (fun hc110 => absurd hc110 (by omega)) (fun hc110 => ?_)
      refine x_aload_n (q := 114) dX9_nodeLines_113 rfl rfl ?_
      refine m_get (q := 117) hM 6 fwX9_19 (by decide) dX9_nodeLines_114 rfl rfl ?_
      refine xn_iconst (q := 118) 2 dX9_nodeLines_117 rfl (by decide) ?_
      refine x_iload_n (q := 119) dX9_nodeLines_118 rfl rfl ?_
      refine xn_imul (q := 120) dX9_nodeLines_119 rfl ?_
      refine xn_iconst (q := 121) 1 dX9_nodeLines_120 rfl (by decide) ?_
      refine xn_isub (q := 122) dX9_nodeLines_121 rfl (by omega) ?_
      refine m_zald (q := 123) hM (n := 6) (by decide) dX9_nodeLines_122 rfl (by omega) ?_
      rw [(oc1).2.1, hHl, hl]
      refine x_if_ne (q := 126) 130 dX9_nodeLines_123 (by decide) rfl (fun hc123 => absurd hc123 (by decide)) (fun hc123 => ?_)
      refine xn_iconst (q := 127) 1 dX9_nodeLines_126 rfl (by decide) ?_
      refine x_goto 131 dX9_nodeLines_127 (by decide) ?_
      refine x_istore (q := 133) (ls' := [(0, _), (1, _), (2, _), (3, _), (4, _)]) [1, 2, 3, 4, 0] dX9_nodeLines_131 rfl (by decide) rfl ?_
      refine x_iload_n (q := 134) dX9_nodeLines_133 rfl rfl ?_
      refine xn_if_eq (q := 137) 152 dX9_nodeLines_134 (by decide) rfl (by omega) (fun hc134 => absurd hc134 (by decide)) (fun hc134 => ?_)
      refine x_aload_n (q := 138) dX9_nodeLines_137 rfl rfl ?_
      refine m_get (q := 141) hM 6 fwX9_19 (by decide) dX9_nodeLines_138 rfl rfl ?_
      refine xn_iconst (q := 142) 2 dX9_nodeLines_141 rfl (by decide) ?_
      refine x_iload_n (q := 143) dX9_nodeLines_142 rfl rfl ?_
      refine xn_imul (q := 144) dX9_nodeLines_143 rfl ?_
      refine m_zald (q := 145) hM (n := 6) (by decide) dX9_nodeLines_144 rfl (by omega) ?_
      rw [(oc1).2.1, hHr hR0, hg]
      refine x_if_ne (q := 148) 152 dX9_nodeLines_145 (by decide) rfl (fun hc145 => absurd hc145 (by decide)) (fun hc145 => ?_)
      refine xn_iconst (q := 149) 1 dX9_nodeLines_148 rfl (by decide) ?_
      refine x_goto 153 dX9_nodeLines_149 (by decide) ?_
      refine x_istore (q := 155) (ls' := [(0, _), (1, _), (2, _), (3, _), (4, _), (5, _)]) [1, 2, 3, 4, 5, 0] dX9_nodeLines_153 rfl (by decide) rfl ?_
      refine x_aload_n (q := 156) dX9_nodeLines_155 rfl rfl ?_
      refine m_get (q := 159) hM 8 fwX9_26 (by decide) dX9_nodeLines_156 rfl rfl ?_
      refine x_iload_n (q := 160) dX9_nodeLines_159 rfl rfl ?_
      refine m_zald (q := 161) hM (n := 4) (by decide) dX9_nodeLines_160 rfl (by omega) ?_
      rw [(oc1).2.1, hTn, hU]
      refine x_if_eq (q := 164) 181 dX9_nodeLines_161 (by decide) rfl (fun hc161 => ?_) (fun hc161 => absurd (by decide) hc161)
      refine x_aload_n (q := 182) dX9_nodeLines_181 rfl rfl ?_
      refine m_get (q := 185) hM 8 fwX9_26 (by decide) dX9_nodeLines_182 rfl rfl ?_
      refine x_iload_n (q := 186) dX9_nodeLines_185 rfl rfl ?_
      refine m_zald (q := 187) hM (n := 4) (by decide) dX9_nodeLines_186 rfl (by omega) ?_
      rw [(oc1).2.1, hTn, hU]
      refine x_if_eq (q := 190) 209 dX9_nodeLines_187 (by decide) rfl (fun hc187 => ?_) (fun hc187 => absurd (by decide) hc187)
      refine x_aload_n (q := 210) dX9_nodeLines_209 rfl rfl ?_
      refine m_get (q := 213) hM 8 fwX9_26 (by decide) dX9_nodeLines_210 rfl rfl ?_
      refine x_iload_n (q := 214) dX9_nodeLines_213 rfl rfl ?_
      refine m_zald (q := 215) hM (n := 4) (by decide) dX9_nodeLines_214 rfl (by omega) ?_
      rw [(oc1).2.1, hTn, hU]
      refine x_if_ne (q := 218) 246 dX9_nodeLines_215 (by decide) rfl (fun hc215 => absurd hc215 (by decide)) (fun hc215 => ?_)
      refine x_iload (q := 220) dX9_nodeLines_218 rfl rfl ?_
      refine xn_if_eq (q := 223) 246 dX9_nodeLines_220 (by decide) rfl (by omega) (fun hc220 => absurd hc220 (by decide)) (fun hc220 => ?_)
      refine x_iload (q := 225) dX9_nodeLines_223 rfl rfl ?_
      refine xn_if_eq (q := 228) 246 dX9_nodeLines_225 (by decide) rfl (by omega) (fun hc225 => absurd hc225 (by decide)) (fun hc225 => ?_)
      refine x_aload_n (q := 229) dX9_nodeLines_228 rfl rfl ?_
      refine x_iload_n (q := 230) dX9_nodeLines_229 rfl rfl ?_
      refine xn_iconst (q := 231) 1 dX9_nodeLines_230 rfl (by decide) ?_
      refine xn_iadd (q := 232) dX9_nodeLines_231 rfl ?_
      refine xn_lconst (q := 233) 1 dX9_nodeLines_232 rfl (by decide) ?_
      refine xn_iconst (q := 234) 2 dX9_nodeLines_233 rfl (by decide) ?_
      refine x_iload_n (q := 235) dX9_nodeLines_234 rfl rfl ?_
      refine xn_imul (q := 236) dX9_nodeLines_235 rfl ?_
      refine xn_iconst (q := 237) 1 dX9_nodeLines_236 rfl (by decide) ?_
      refine xn_iadd (q := 238) dX9_nodeLines_237 rfl ?_
      refine x_ldc2 (q := 241) (-1) dX9_nodeLines_238 rfl cwX9_176 ?_
      refine x_topl (y := iL (-1)) (by decide) ?_
      refine xn_iconst (q := 242) 0 dX9_nodeLines_241 rfl (by decide) ?_
      refine xn_lconst (q := 243) 0 dX9_nodeLines_242 rfl (by decide) ?_
      refine m_call (q := 246) (As := [_, _, _, _, _, _]) hM imX9_line ivX9_line ilX9_line mwX9_234 xciX9 dX9_nodeLines_243 rfl rfl rfl (Nat.le_of_ble_eq_true rfl) ?_
      refine (c_line G l o as M0 N S d σc1 (2 * node - 2 + 1) (2 * node + 1) (0) _ _ _ (1) (-1) (0) (lN_i' _) rfl (lN_i' _) (by omega) (by omega) (by omega) (n + 1) (by omega) _ lc1).mono (fun x σc2 hp => ?_)
      obtain ⟨rfl, qc2, lc2⟩ := hp
      intro M hM
      have oc2 : onlyL σ σc2 := (oc1).trans qc2
      show xX G l _ (d + 1) _ _ _ [] M N S
      refine x_vret rfl dX9_nodeLines_246 (m_ret hM ⟨rfl, oc2, ?_⟩)
      simp only [nlP, h0, hR0, hB, hl, hg, hU, decide_true, decide_false, Bool.not_true, Bool.not_false, Bool.and_true, Bool.true_and, Bool.and_false, Bool.false_and, Bool.and_self, if_true, if_false, reduceIte, Bool.false_eq_true]
      exact lc2
    · refine x_iload_n (q := 1) dX9_nodeLines_0 rfl rfl ?_
      refine x_aload_n (q := 2) dX9_nodeLines_1 rfl rfl ?_
      refine m_get (q := 5) hM 3 fwX9_93 (by decide) dX9_nodeLines_2 rfl rfl ?_
      rw [(onlyL.rfl').1 3 (by decide), hm]
      refine xn_icmp_ge (q := 8) 12 dX9_nodeLines_5 (by decide) rfl (by omega) (by omega) (fun hc5 => absurd hc5 (by omega)) (fun hc5 => ?_)
      refine xn_iconst (q := 9) 1 dX9_nodeLines_8 rfl (by decide) ?_
      refine x_goto 13 dX9_nodeLines_9 (by decide) ?_
      refine x_istore_n (q := 14) (ls' := [(0, _), (1, _), (2, _)]) [1, 2, 0] dX9_nodeLines_13 rfl (by decide) rfl ?_
      refine xn_iconst (q := 15) 2 dX9_nodeLines_14 rfl (by decide) ?_
      refine x_iload_n (q := 16) dX9_nodeLines_15 rfl rfl ?_
      refine xn_imul (q := 17) dX9_nodeLines_16 rfl ?_
      refine xn_iconst (q := 18) 2 dX9_nodeLines_17 rfl (by decide) ?_
      refine xn_isub (q := 19) dX9_nodeLines_18 rfl (by omega) ?_
      refine x_istore_n (q := 20) (ls' := [(0, _), (1, _), (2, _), (3, _)]) [1, 2, 3, 0] dX9_nodeLines_19 rfl (by decide) rfl ?_
      refine x_iload_n (q := 21) dX9_nodeLines_20 rfl rfl ?_
      refine xn_if_le (q := 24) 52 dX9_nodeLines_21 (by decide) rfl (by omega) (fun hc21 => absurd hc21 (by omega)) (fun hc21 => ?_)
      refine x_iload_n (q := 25) dX9_nodeLines_24 rfl rfl ?_
      refine xn_if_eq (q := 28) 52 dX9_nodeLines_25 (by decide) rfl (by omega) (fun hc25 => absurd hc25 (by decide)) (fun hc25 => ?_)
      refine x_aload_n (q := 29) dX9_nodeLines_28 rfl rfl ?_
      refine x_iload_n (q := 30) dX9_nodeLines_29 rfl rfl ?_
      refine xn_lconst (q := 31) 1 dX9_nodeLines_30 rfl (by decide) ?_
      refine x_iload_n (q := 32) dX9_nodeLines_31 rfl rfl ?_
      refine xn_iconst (q := 33) 1 dX9_nodeLines_32 rfl (by decide) ?_
      refine xn_iadd (q := 34) dX9_nodeLines_33 rfl ?_
      refine x_aload_n (q := 35) dX9_nodeLines_34 rfl rfl ?_
      refine m_get (q := 38) hM 4 fwX9_13 (by decide) dX9_nodeLines_35 rfl rfl ?_
      refine x_iload_n (q := 39) dX9_nodeLines_38 rfl rfl ?_
      refine xn_iconst (q := 40) 1 dX9_nodeLines_39 rfl (by decide) ?_
      refine xn_isub (q := 41) dX9_nodeLines_40 rfl (by omega) ?_
      refine m_iald (q := 42) hM (n := 3) (by decide) dX9_nodeLines_41 rfl (by omega) ?_
      rw [(onlyL.rfl').2.1, hL1]
      refine xn_i2l (q := 43) dX9_nodeLines_42 rfl (by omega) ?_
      refine xn_iconst (q := 44) 2 dX9_nodeLines_43 rfl (by decide) ?_
      refine x_iload_n (q := 45) dX9_nodeLines_44 rfl rfl ?_
      refine xn_imul (q := 46) dX9_nodeLines_45 rfl ?_
      refine x_ldc2 (q := 49) (-1) dX9_nodeLines_46 rfl cwX9_176 ?_
      refine x_topl (y := iL (-1)) (by decide) ?_
      refine m_call (q := 52) (As := [_, _, _, _, _, _]) hM imX9_line ivX9_line ilX9_line mwX9_234 xciX9 dX9_nodeLines_49 rfl rfl rfl (Nat.le_of_ble_eq_true rfl) ?_
      refine (c_line G l o as M0 N S d σ (2 * node - 2) (2 * node - 2 + 1) (2 * node) _ _ _ (1) (c.L (node - 1)) (-1) (lN_i' _) (lN_i' _) rfl (by omega) (by omega) (by omega) (n) (by omega) _ hR).mono (fun x σc1 hp => ?_)
      obtain ⟨rfl, qc1, lc1⟩ := hp
      intro M hM
      have oc1 : onlyL σ σc1 := (onlyL.rfl').trans qc1
      show xX G l _ (d + 1) _ _ _ [] M N S
      refine x_aload_n (q := 53) dX9_nodeLines_52 rfl rfl ?_
      refine m_get (q := 56) hM 7 fwX9_23 (by decide) dX9_nodeLines_53 rfl rfl ?_
      refine x_iload_n (q := 57) dX9_nodeLines_56 rfl rfl ?_
      refine m_zald (q := 58) hM (n := 4) (by decide) dX9_nodeLines_57 rfl (by omega) ?_
      rw [(oc1).2.1, hHn, hB]
      refine x_if_eq (q := 61) 109 dX9_nodeLines_58 (by decide) rfl (fun hc58 => ?_) (fun hc58 => absurd (by decide) hc58)
      refine x_iload_n (q := 110) dX9_nodeLines_109 rfl rfl ?_
      refine xn_if_le (q := 113) 130 dX9_nodeLines_110 (by decide) rfl (by omega) (fun hc110 => absurd hc110 (by omega)) (fun hc110 => ?_)
      refine x_aload_n (q := 114) dX9_nodeLines_113 rfl rfl ?_
      refine m_get (q := 117) hM 6 fwX9_19 (by decide) dX9_nodeLines_114 rfl rfl ?_
      refine xn_iconst (q := 118) 2 dX9_nodeLines_117 rfl (by decide) ?_
      refine x_iload_n (q := 119) dX9_nodeLines_118 rfl rfl ?_
      refine xn_imul (q := 120) dX9_nodeLines_119 rfl ?_
      refine xn_iconst (q := 121) 1 dX9_nodeLines_120 rfl (by decide) ?_
      refine xn_isub (q := 122) dX9_nodeLines_121 rfl (by omega) ?_
      refine m_zald (q := 123) hM (n := 6) (by decide) dX9_nodeLines_122 rfl (by omega) ?_
      rw [(oc1).2.1, hHl, hl]
      refine x_if_ne (q := 126) 130 dX9_nodeLines_123 (by decide) rfl (fun hc123 => absurd hc123 (by decide)) (fun hc123 => ?_)
      refine xn_iconst (q := 127) 1 dX9_nodeLines_126 rfl (by decide) ?_
      refine x_goto 131 dX9_nodeLines_127 (by decide) ?_
      refine x_istore (q := 133) (ls' := [(0, _), (1, _), (2, _), (3, _), (4, _)]) [1, 2, 3, 4, 0] dX9_nodeLines_131 rfl (by decide) rfl ?_
      refine x_iload_n (q := 134) dX9_nodeLines_133 rfl rfl ?_
      refine xn_if_eq (q := 137) 152 dX9_nodeLines_134 (by decide) rfl (by omega) (fun hc134 => absurd hc134 (by decide)) (fun hc134 => ?_)
      refine x_aload_n (q := 138) dX9_nodeLines_137 rfl rfl ?_
      refine m_get (q := 141) hM 6 fwX9_19 (by decide) dX9_nodeLines_138 rfl rfl ?_
      refine xn_iconst (q := 142) 2 dX9_nodeLines_141 rfl (by decide) ?_
      refine x_iload_n (q := 143) dX9_nodeLines_142 rfl rfl ?_
      refine xn_imul (q := 144) dX9_nodeLines_143 rfl ?_
      refine m_zald (q := 145) hM (n := 6) (by decide) dX9_nodeLines_144 rfl (by omega) ?_
      rw [(oc1).2.1, hHr hR0, hg]
      refine x_if_ne (q := 148) 152 dX9_nodeLines_145 (by decide) rfl (fun hc145 => absurd hc145 (by decide)) (fun hc145 => ?_)
      refine xn_iconst (q := 149) 1 dX9_nodeLines_148 rfl (by decide) ?_
      refine x_goto 153 dX9_nodeLines_149 (by decide) ?_
      refine x_istore (q := 155) (ls' := [(0, _), (1, _), (2, _), (3, _), (4, _), (5, _)]) [1, 2, 3, 4, 5, 0] dX9_nodeLines_153 rfl (by decide) rfl ?_
      refine x_aload_n (q := 156) dX9_nodeLines_155 rfl rfl ?_
      refine m_get (q := 159) hM 8 fwX9_26 (by decide) dX9_nodeLines_156 rfl rfl ?_
      refine x_iload_n (q := 160) dX9_nodeLines_159 rfl rfl ?_
      refine m_zald (q := 161) hM (n := 4) (by decide) dX9_nodeLines_160 rfl (by omega) ?_
      rw [(oc1).2.1, hTn, hU]
      refine x_if_eq (q := 164) 181 dX9_nodeLines_161 (by decide) rfl (fun hc161 => absurd hc161 (by decide)) (fun hc161 => ?_)
      refine x_iload (q := 166) dX9_nodeLines_164 rfl rfl ?_
      refine xn_if_eq (q := 169) 181 dX9_nodeLines_166 (by decide) rfl (by omega) (fun hc166 => absurd hc166 (by decide)) (fun hc166 => ?_)
      refine x_aload_n (q := 170) dX9_nodeLines_169 rfl rfl ?_
      refine x_iload_n (q := 171) dX9_nodeLines_170 rfl rfl ?_
      refine xn_iconst (q := 172) 1 dX9_nodeLines_171 rfl (by decide) ?_
      refine xn_iadd (q := 173) dX9_nodeLines_172 rfl ?_
      refine xn_lconst (q := 174) 1 dX9_nodeLines_173 rfl (by decide) ?_
      refine xn_iconst (q := 175) 0 dX9_nodeLines_174 rfl (by decide) ?_
      refine xn_lconst (q := 176) 0 dX9_nodeLines_175 rfl (by decide) ?_
      refine xn_iconst (q := 177) 0 dX9_nodeLines_176 rfl (by decide) ?_
      refine xn_lconst (q := 178) 0 dX9_nodeLines_177 rfl (by decide) ?_
      refine m_call (q := 181) (As := [_, _, _, _, _, _]) hM imX9_line ivX9_line ilX9_line mwX9_234 xciX9 dX9_nodeLines_178 rfl rfl rfl (Nat.le_of_ble_eq_true rfl) ?_
      refine (c_line G l o as M0 N S d σc1 (2 * node - 2 + 1) (0) (0) _ _ _ (1) (0) (0) (lN_i' _) (lN_i' _) (lN_i' _) (by omega) (by omega) (by omega) (n + 1) (by omega) _ lc1).mono (fun x σc2 hp => ?_)
      obtain ⟨rfl, qc2, lc2⟩ := hp
      intro M hM
      have oc2 : onlyL σ σc2 := (oc1).trans qc2
      show xX G l _ (d + 1) _ _ _ [] M N S
      refine x_aload_n (q := 182) dX9_nodeLines_181 rfl rfl ?_
      refine m_get (q := 185) hM 8 fwX9_26 (by decide) dX9_nodeLines_182 rfl rfl ?_
      refine x_iload_n (q := 186) dX9_nodeLines_185 rfl rfl ?_
      refine m_zald (q := 187) hM (n := 4) (by decide) dX9_nodeLines_186 rfl (by omega) ?_
      rw [(oc2).2.1, hTn, hU]
      refine x_if_eq (q := 190) 209 dX9_nodeLines_187 (by decide) rfl (fun hc187 => absurd hc187 (by decide)) (fun hc187 => ?_)
      refine x_iload (q := 192) dX9_nodeLines_190 rfl rfl ?_
      refine xn_if_eq (q := 195) 209 dX9_nodeLines_192 (by decide) rfl (by omega) (fun hc192 => absurd hc192 (by decide)) (fun hc192 => ?_)
      refine x_aload_n (q := 196) dX9_nodeLines_195 rfl rfl ?_
      refine xn_iconst (q := 197) 2 dX9_nodeLines_196 rfl (by decide) ?_
      refine x_iload_n (q := 198) dX9_nodeLines_197 rfl rfl ?_
      refine xn_imul (q := 199) dX9_nodeLines_198 rfl ?_
      refine xn_iconst (q := 200) 1 dX9_nodeLines_199 rfl (by decide) ?_
      refine xn_iadd (q := 201) dX9_nodeLines_200 rfl ?_
      refine xn_lconst (q := 202) 1 dX9_nodeLines_201 rfl (by decide) ?_
      refine xn_iconst (q := 203) 0 dX9_nodeLines_202 rfl (by decide) ?_
      refine xn_lconst (q := 204) 0 dX9_nodeLines_203 rfl (by decide) ?_
      refine xn_iconst (q := 205) 0 dX9_nodeLines_204 rfl (by decide) ?_
      refine xn_lconst (q := 206) 0 dX9_nodeLines_205 rfl (by decide) ?_
      refine m_call (q := 209) (As := [_, _, _, _, _, _]) hM imX9_line ivX9_line ilX9_line mwX9_234 xciX9 dX9_nodeLines_206 rfl rfl rfl (Nat.le_of_ble_eq_true rfl) ?_
      refine (c_line G l o as M0 N S d σc2 (2 * node + 1) (0) (0) _ _ _ (1) (0) (0) (lN_i' _) (lN_i' _) (lN_i' _) (by omega) (by omega) (by omega) (n + 1 + 1) (by omega) _ lc2).mono (fun x σc3 hp => ?_)
      obtain ⟨rfl, qc3, lc3⟩ := hp
      intro M hM
      have oc3 : onlyL σ σc3 := (oc2).trans qc3
      show xX G l _ (d + 1) _ _ _ [] M N S
      refine x_aload_n (q := 210) dX9_nodeLines_209 rfl rfl ?_
      refine m_get (q := 213) hM 8 fwX9_26 (by decide) dX9_nodeLines_210 rfl rfl ?_
      refine x_iload_n (q := 214) dX9_nodeLines_213 rfl rfl ?_
      refine m_zald (q := 215) hM (n := 4) (by decide) dX9_nodeLines_214 rfl (by omega) ?_
      rw [(oc3).2.1, hTn, hU]
      refine x_if_ne (q := 218) 246 dX9_nodeLines_215 (by decide) rfl (fun hc215 => ?_) (fun hc215 => absurd hc215 (by decide))
      refine x_vret rfl dX9_nodeLines_246 (m_ret hM ⟨rfl, oc3, ?_⟩)
      simp only [nlP, h0, hR0, hB, hl, hg, hU, decide_true, decide_false, Bool.not_true, Bool.not_false, Bool.and_true, Bool.true_and, Bool.and_false, Bool.false_and, Bool.and_self, if_true, if_false, reduceIte, Bool.false_eq_true]
      exact lc3
    · refine x_iload_n (q := 1) dX9_nodeLines_0 rfl rfl ?_
      refine x_aload_n (q := 2) dX9_nodeLines_1 rfl rfl ?_
      refine m_get (q := 5) hM 3 fwX9_93 (by decide) dX9_nodeLines_2 rfl rfl ?_
      rw [(onlyL.rfl').1 3 (by decide), hm]
      refine xn_icmp_ge (q := 8) 12 dX9_nodeLines_5 (by decide) rfl (by omega) (by omega) (fun hc5 => absurd hc5 (by omega)) (fun hc5 => ?_)
      refine xn_iconst (q := 9) 1 dX9_nodeLines_8 rfl (by decide) ?_
      refine x_goto 13 dX9_nodeLines_9 (by decide) ?_
      refine x_istore_n (q := 14) (ls' := [(0, _), (1, _), (2, _)]) [1, 2, 0] dX9_nodeLines_13 rfl (by decide) rfl ?_
      refine xn_iconst (q := 15) 2 dX9_nodeLines_14 rfl (by decide) ?_
      refine x_iload_n (q := 16) dX9_nodeLines_15 rfl rfl ?_
      refine xn_imul (q := 17) dX9_nodeLines_16 rfl ?_
      refine xn_iconst (q := 18) 2 dX9_nodeLines_17 rfl (by decide) ?_
      refine xn_isub (q := 19) dX9_nodeLines_18 rfl (by omega) ?_
      refine x_istore_n (q := 20) (ls' := [(0, _), (1, _), (2, _), (3, _)]) [1, 2, 3, 0] dX9_nodeLines_19 rfl (by decide) rfl ?_
      refine x_iload_n (q := 21) dX9_nodeLines_20 rfl rfl ?_
      refine xn_if_le (q := 24) 52 dX9_nodeLines_21 (by decide) rfl (by omega) (fun hc21 => absurd hc21 (by omega)) (fun hc21 => ?_)
      refine x_iload_n (q := 25) dX9_nodeLines_24 rfl rfl ?_
      refine xn_if_eq (q := 28) 52 dX9_nodeLines_25 (by decide) rfl (by omega) (fun hc25 => absurd hc25 (by decide)) (fun hc25 => ?_)
      refine x_aload_n (q := 29) dX9_nodeLines_28 rfl rfl ?_
      refine x_iload_n (q := 30) dX9_nodeLines_29 rfl rfl ?_
      refine xn_lconst (q := 31) 1 dX9_nodeLines_30 rfl (by decide) ?_
      refine x_iload_n (q := 32) dX9_nodeLines_31 rfl rfl ?_
      refine xn_iconst (q := 33) 1 dX9_nodeLines_32 rfl (by decide) ?_
      refine xn_iadd (q := 34) dX9_nodeLines_33 rfl ?_
      refine x_aload_n (q := 35) dX9_nodeLines_34 rfl rfl ?_
      refine m_get (q := 38) hM 4 fwX9_13 (by decide) dX9_nodeLines_35 rfl rfl ?_
      refine x_iload_n (q := 39) dX9_nodeLines_38 rfl rfl ?_
      refine xn_iconst (q := 40) 1 dX9_nodeLines_39 rfl (by decide) ?_
      refine xn_isub (q := 41) dX9_nodeLines_40 rfl (by omega) ?_
      refine m_iald (q := 42) hM (n := 3) (by decide) dX9_nodeLines_41 rfl (by omega) ?_
      rw [(onlyL.rfl').2.1, hL1]
      refine xn_i2l (q := 43) dX9_nodeLines_42 rfl (by omega) ?_
      refine xn_iconst (q := 44) 2 dX9_nodeLines_43 rfl (by decide) ?_
      refine x_iload_n (q := 45) dX9_nodeLines_44 rfl rfl ?_
      refine xn_imul (q := 46) dX9_nodeLines_45 rfl ?_
      refine x_ldc2 (q := 49) (-1) dX9_nodeLines_46 rfl cwX9_176 ?_
      refine x_topl (y := iL (-1)) (by decide) ?_
      refine m_call (q := 52) (As := [_, _, _, _, _, _]) hM imX9_line ivX9_line ilX9_line mwX9_234 xciX9 dX9_nodeLines_49 rfl rfl rfl (Nat.le_of_ble_eq_true rfl) ?_
      refine (c_line G l o as M0 N S d σ (2 * node - 2) (2 * node - 2 + 1) (2 * node) _ _ _ (1) (c.L (node - 1)) (-1) (lN_i' _) (lN_i' _) rfl (by omega) (by omega) (by omega) (n) (by omega) _ hR).mono (fun x σc1 hp => ?_)
      obtain ⟨rfl, qc1, lc1⟩ := hp
      intro M hM
      have oc1 : onlyL σ σc1 := (onlyL.rfl').trans qc1
      show xX G l _ (d + 1) _ _ _ [] M N S
      refine x_aload_n (q := 53) dX9_nodeLines_52 rfl rfl ?_
      refine m_get (q := 56) hM 7 fwX9_23 (by decide) dX9_nodeLines_53 rfl rfl ?_
      refine x_iload_n (q := 57) dX9_nodeLines_56 rfl rfl ?_
      refine m_zald (q := 58) hM (n := 4) (by decide) dX9_nodeLines_57 rfl (by omega) ?_
      rw [(oc1).2.1, hHn, hB]
      refine x_if_eq (q := 61) 109 dX9_nodeLines_58 (by decide) rfl (fun hc58 => ?_) (fun hc58 => absurd (by decide) hc58)
      refine x_iload_n (q := 110) dX9_nodeLines_109 rfl rfl ?_
      refine xn_if_le (q := 113) 130 dX9_nodeLines_110 (by decide) rfl (by omega) (fun hc110 => absurd hc110 (by omega)) (fun hc110 => ?_)
      refine x_aload_n (q := 114) dX9_nodeLines_113 rfl rfl ?_
      refine m_get (q := 117) hM 6 fwX9_19 (by decide) dX9_nodeLines_114 rfl rfl ?_
      refine xn_iconst (q := 118) 2 dX9_nodeLines_117 rfl (by decide) ?_
      refine x_iload_n (q := 119) dX9_nodeLines_118 rfl rfl ?_
      refine xn_imul (q := 120) dX9_nodeLines_119 rfl ?_
      refine xn_iconst (q := 121) 1 dX9_nodeLines_120 rfl (by decide) ?_
      refine xn_isub (q := 122) dX9_nodeLines_121 rfl (by omega) ?_
      refine m_zald (q := 123) hM (n := 6) (by decide) dX9_nodeLines_122 rfl (by omega) ?_
      rw [(oc1).2.1, hHl, hl]
      refine x_if_ne (q := 126) 130 dX9_nodeLines_123 (by decide) rfl (fun hc123 => absurd hc123 (by decide)) (fun hc123 => ?_)
      refine xn_iconst (q := 127) 1 dX9_nodeLines_126 rfl (by decide) ?_
      refine x_goto 131 dX9_nodeLines_127 (by decide) ?_
      refine x_istore (q := 133) (ls' := [(0, _), (1, _), (2, _), (3, _), (4, _)]) [1, 2, 3, 4, 0] dX9_nodeLines_131 rfl (by decide) rfl ?_
      refine x_iload_n (q := 134) dX9_nodeLines_133 rfl rfl ?_
      refine xn_if_eq (q := 137) 152 dX9_nodeLines_134 (by decide) rfl (by omega) (fun hc134 => absurd hc134 (by decide)) (fun hc134 => ?_)
      refine x_aload_n (q := 138) dX9_nodeLines_137 rfl rfl ?_
      refine m_get (q := 141) hM 6 fwX9_19 (by decide) dX9_nodeLines_138 rfl rfl ?_
      refine xn_iconst (q := 142) 2 dX9_nodeLines_141 rfl (by decide) ?_
      refine x_iload_n (q := 143) dX9_nodeLines_142 rfl rfl ?_
      refine xn_imul (q := 144) dX9_nodeLines_143 rfl ?_
      refine m_zald (q := 145) hM (n := 6) (by decide) dX9_nodeLines_144 rfl (by omega) ?_
      rw [(oc1).2.1, hHr hR0, hg]
      refine x_if_ne (q := 148) 152 dX9_nodeLines_145 (by decide) rfl (fun hc145 => ?_) (fun hc145 => absurd hc145 (by decide))
      refine xn_iconst (q := 153) 0 dX9_nodeLines_152 rfl (by decide) ?_
      refine x_istore (q := 155) (ls' := [(0, _), (1, _), (2, _), (3, _), (4, _), (5, _)]) [1, 2, 3, 4, 5, 0] dX9_nodeLines_153 rfl (by decide) rfl ?_
      refine x_aload_n (q := 156) dX9_nodeLines_155 rfl rfl ?_
      refine m_get (q := 159) hM 8 fwX9_26 (by decide) dX9_nodeLines_156 rfl rfl ?_
      refine x_iload_n (q := 160) dX9_nodeLines_159 rfl rfl ?_
      refine m_zald (q := 161) hM (n := 4) (by decide) dX9_nodeLines_160 rfl (by omega) ?_
      rw [(oc1).2.1, hTn, hU]
      refine x_if_eq (q := 164) 181 dX9_nodeLines_161 (by decide) rfl (fun hc161 => ?_) (fun hc161 => absurd (by decide) hc161)
      refine x_aload_n (q := 182) dX9_nodeLines_181 rfl rfl ?_
      refine m_get (q := 185) hM 8 fwX9_26 (by decide) dX9_nodeLines_182 rfl rfl ?_
      refine x_iload_n (q := 186) dX9_nodeLines_185 rfl rfl ?_
      refine m_zald (q := 187) hM (n := 4) (by decide) dX9_nodeLines_186 rfl (by omega) ?_
      rw [(oc1).2.1, hTn, hU]
      refine x_if_eq (q := 190) 209 dX9_nodeLines_187 (by decide) rfl (fun hc187 => ?_) (fun hc187 => absurd (by decide) hc187)
      refine x_aload_n (q := 210) dX9_nodeLines_209 rfl rfl ?_
      refine m_get (q := 213) hM 8 fwX9_26 (by decide) dX9_nodeLines_210 rfl rfl ?_
      refine x_iload_n (q := 214) dX9_nodeLines_213 rfl rfl ?_
      refine m_zald (q := 215) hM (n := 4) (by decide) dX9_nodeLines_214 rfl (by omega) ?_
      rw [(oc1).2.1, hTn, hU]
      refine x_if_ne (q := 218) 246 dX9_nodeLines_215 (by decide) rfl (fun hc215 => absurd hc215 (by decide)) (fun hc215 => ?_)
      refine x_iload (q := 220) dX9_nodeLines_218 rfl rfl ?_
      refine xn_if_eq (q := 223) 246 dX9_nodeLines_220 (by decide) rfl (by omega) (fun hc220 => absurd hc220 (by decide)) (fun hc220 => ?_)
      refine x_iload (q := 225) dX9_nodeLines_223 rfl rfl ?_
      refine xn_if_eq (q := 228) 246 dX9_nodeLines_225 (by decide) rfl (by omega) (fun hc225 => ?_) (fun hc225 => absurd hc225 (by decide))
      refine x_vret rfl dX9_nodeLines_246 (m_ret hM ⟨rfl, oc1, ?_⟩)
      simp only [nlP, h0, hR0, hB, hl, hg, hU, decide_true, decide_false, Bool.not_true, Bool.not_false, Bool.and_true, Bool.true_and, Bool.and_false, Bool.false_and, Bool.and_self, if_true, if_false, reduceIte, Bool.false_eq_true]
      exact lc1
    · refine x_iload_n (q := 1) dX9_nodeLines_0 rfl rfl ?_
      refine x_aload_n (q := 2) dX9_nodeLines_1 rfl rfl ?_
      refine m_get (q := 5) hM 3 fwX9_93 (by decide) dX9_nodeLines_2 rfl rfl ?_
      rw [(onlyL.rfl').1 3 (by decide), hm]
      refine xn_icmp_ge (q := 8) 12 dX9_nodeLines_5 (by decide) rfl (by omega) (by omega) (fun hc5 => absurd hc5 (by omega)) (fun hc5 => ?_)
      refine xn_iconst (q := 9) 1 dX9_nodeLines_8 rfl (by decide) ?_
      refine x_goto 13 dX9_nodeLines_9 (by decide) ?_
      refine x_istore_n (q := 14) (ls' := [(0, _), (1, _), (2, _)]) [1, 2, 0] dX9_nodeLines_13 rfl (by decide) rfl ?_
      refine xn_iconst (q := 15) 2 dX9_nodeLines_14 rfl (by decide) ?_
      refine x_iload_n (q := 16) dX9_nodeLines_15 rfl rfl ?_
      refine xn_imul (q := 17) dX9_nodeLines_16 rfl ?_
      refine xn_iconst (q := 18) 2 dX9_nodeLines_17 rfl (by decide) ?_
      refine xn_isub (q := 19) dX9_nodeLines_18 rfl (by omega) ?_
      refine x_istore_n (q := 20) (ls' := [(0, _), (1, _), (2, _), (3, _)]) [1, 2, 3, 0] dX9_nodeLines_19 rfl (by decide) rfl ?_
      refine x_iload_n (q := 21) dX9_nodeLines_20 rfl rfl ?_
      refine xn_if_le (q := 24) 52 dX9_nodeLines_21 (by decide) rfl (by omega) (fun hc21 => absurd hc21 (by omega)) (fun hc21 => ?_)
      refine x_iload_n (q := 25) dX9_nodeLines_24 rfl rfl ?_
      refine xn_if_eq (q := 28) 52 dX9_nodeLines_25 (by decide) rfl (by omega) (fun hc25 => absurd hc25 (by decide)) (fun hc25 => ?_)
      refine x_aload_n (q := 29) dX9_nodeLines_28 rfl rfl ?_
      refine x_iload_n (q := 30) dX9_nodeLines_29 rfl rfl ?_
      refine xn_lconst (q := 31) 1 dX9_nodeLines_30 rfl (by decide) ?_
      refine x_iload_n (q := 32) dX9_nodeLines_31 rfl rfl ?_
      refine xn_iconst (q := 33) 1 dX9_nodeLines_32 rfl (by decide) ?_
      refine xn_iadd (q := 34) dX9_nodeLines_33 rfl ?_
      refine x_aload_n (q := 35) dX9_nodeLines_34 rfl rfl ?_
      refine m_get (q := 38) hM 4 fwX9_13 (by decide) dX9_nodeLines_35 rfl rfl ?_
      refine x_iload_n (q := 39) dX9_nodeLines_38 rfl rfl ?_
      refine xn_iconst (q := 40) 1 dX9_nodeLines_39 rfl (by decide) ?_
      refine xn_isub (q := 41) dX9_nodeLines_40 rfl (by omega) ?_
      refine m_iald (q := 42) hM (n := 3) (by decide) dX9_nodeLines_41 rfl (by omega) ?_
      rw [(onlyL.rfl').2.1, hL1]
      refine xn_i2l (q := 43) dX9_nodeLines_42 rfl (by omega) ?_
      refine xn_iconst (q := 44) 2 dX9_nodeLines_43 rfl (by decide) ?_
      refine x_iload_n (q := 45) dX9_nodeLines_44 rfl rfl ?_
      refine xn_imul (q := 46) dX9_nodeLines_45 rfl ?_
      refine x_ldc2 (q := 49) (-1) dX9_nodeLines_46 rfl cwX9_176 ?_
      refine x_topl (y := iL (-1)) (by decide) ?_
      refine m_call (q := 52) (As := [_, _, _, _, _, _]) hM imX9_line ivX9_line ilX9_line mwX9_234 xciX9 dX9_nodeLines_49 rfl rfl rfl (Nat.le_of_ble_eq_true rfl) ?_
      refine (c_line G l o as M0 N S d σ (2 * node - 2) (2 * node - 2 + 1) (2 * node) _ _ _ (1) (c.L (node - 1)) (-1) (lN_i' _) (lN_i' _) rfl (by omega) (by omega) (by omega) (n) (by omega) _ hR).mono (fun x σc1 hp => ?_)
      obtain ⟨rfl, qc1, lc1⟩ := hp
      intro M hM
      have oc1 : onlyL σ σc1 := (onlyL.rfl').trans qc1
      show xX G l _ (d + 1) _ _ _ [] M N S
      refine x_aload_n (q := 53) dX9_nodeLines_52 rfl rfl ?_
      refine m_get (q := 56) hM 7 fwX9_23 (by decide) dX9_nodeLines_53 rfl rfl ?_
      refine x_iload_n (q := 57) dX9_nodeLines_56 rfl rfl ?_
      refine m_zald (q := 58) hM (n := 4) (by decide) dX9_nodeLines_57 rfl (by omega) ?_
      rw [(oc1).2.1, hHn, hB]
      refine x_if_eq (q := 61) 109 dX9_nodeLines_58 (by decide) rfl (fun hc58 => ?_) (fun hc58 => absurd (by decide) hc58)
      refine x_iload_n (q := 110) dX9_nodeLines_109 rfl rfl ?_
      refine xn_if_le (q := 113) 130 dX9_nodeLines_110 (by decide) rfl (by omega) (fun hc110 => absurd hc110 (by omega)) (fun hc110 => ?_)
      refine x_aload_n (q := 114) dX9_nodeLines_113 rfl rfl ?_
      refine m_get (q := 117) hM 6 fwX9_19 (by decide) dX9_nodeLines_114 rfl rfl ?_
      refine xn_iconst (q := 118) 2 dX9_nodeLines_117 rfl (by decide) ?_
      refine x_iload_n (q := 119) dX9_nodeLines_118 rfl rfl ?_
      refine xn_imul (q := 120) dX9_nodeLines_119 rfl ?_
      refine xn_iconst (q := 121) 1 dX9_nodeLines_120 rfl (by decide) ?_
      refine xn_isub (q := 122) dX9_nodeLines_121 rfl (by omega) ?_
      refine m_zald (q := 123) hM (n := 6) (by decide) dX9_nodeLines_122 rfl (by omega) ?_
      rw [(oc1).2.1, hHl, hl]
      refine x_if_ne (q := 126) 130 dX9_nodeLines_123 (by decide) rfl (fun hc123 => absurd hc123 (by decide)) (fun hc123 => ?_)
      refine xn_iconst (q := 127) 1 dX9_nodeLines_126 rfl (by decide) ?_
      refine x_goto 131 dX9_nodeLines_127 (by decide) ?_
      refine x_istore (q := 133) (ls' := [(0, _), (1, _), (2, _), (3, _), (4, _)]) [1, 2, 3, 4, 0] dX9_nodeLines_131 rfl (by decide) rfl ?_
      refine x_iload_n (q := 134) dX9_nodeLines_133 rfl rfl ?_
      refine xn_if_eq (q := 137) 152 dX9_nodeLines_134 (by decide) rfl (by omega) (fun hc134 => absurd hc134 (by decide)) (fun hc134 => ?_)
      refine x_aload_n (q := 138) dX9_nodeLines_137 rfl rfl ?_
      refine m_get (q := 141) hM 6 fwX9_19 (by decide) dX9_nodeLines_138 rfl rfl ?_
      refine xn_iconst (q := 142) 2 dX9_nodeLines_141 rfl (by decide) ?_
      refine x_iload_n (q := 143) dX9_nodeLines_142 rfl rfl ?_
      refine xn_imul (q := 144) dX9_nodeLines_143 rfl ?_
      refine m_zald (q := 145) hM (n := 6) (by decide) dX9_nodeLines_144 rfl (by omega) ?_
      rw [(oc1).2.1, hHr hR0, hg]
      refine x_if_ne (q := 148) 152 dX9_nodeLines_145 (by decide) rfl (fun hc145 => ?_) (fun hc145 => absurd hc145 (by decide))
      refine xn_iconst (q := 153) 0 dX9_nodeLines_152 rfl (by decide) ?_
      refine x_istore (q := 155) (ls' := [(0, _), (1, _), (2, _), (3, _), (4, _), (5, _)]) [1, 2, 3, 4, 5, 0] dX9_nodeLines_153 rfl (by decide) rfl ?_
      refine x_aload_n (q := 156) dX9_nodeLines_155 rfl rfl ?_
      refine m_get (q := 159) hM 8 fwX9_26 (by decide) dX9_nodeLines_156 rfl rfl ?_
      refine x_iload_n (q := 160) dX9_nodeLines_159 rfl rfl ?_
      refine m_zald (q := 161) hM (n := 4) (by decide) dX9_nodeLines_160 rfl (by omega) ?_
      rw [(oc1).2.1, hTn, hU]
      refine x_if_eq (q := 164) 181 dX9_nodeLines_161 (by decide) rfl (fun hc161 => absurd hc161 (by decide)) (fun hc161 => ?_)
      refine x_iload (q := 166) dX9_nodeLines_164 rfl rfl ?_
      refine xn_if_eq (q := 169) 181 dX9_nodeLines_166 (by decide) rfl (by omega) (fun hc166 => absurd hc166 (by decide)) (fun hc166 => ?_)
      refine x_aload_n (q := 170) dX9_nodeLines_169 rfl rfl ?_
      refine x_iload_n (q := 171) dX9_nodeLines_170 rfl rfl ?_
      refine xn_iconst (q := 172) 1 dX9_nodeLines_171 rfl (by decide) ?_
      refine xn_iadd (q := 173) dX9_nodeLines_172 rfl ?_
      refine xn_lconst (q := 174) 1 dX9_nodeLines_173 rfl (by decide) ?_
      refine xn_iconst (q := 175) 0 dX9_nodeLines_174 rfl (by decide) ?_
      refine xn_lconst (q := 176) 0 dX9_nodeLines_175 rfl (by decide) ?_
      refine xn_iconst (q := 177) 0 dX9_nodeLines_176 rfl (by decide) ?_
      refine xn_lconst (q := 178) 0 dX9_nodeLines_177 rfl (by decide) ?_
      refine m_call (q := 181) (As := [_, _, _, _, _, _]) hM imX9_line ivX9_line ilX9_line mwX9_234 xciX9 dX9_nodeLines_178 rfl rfl rfl (Nat.le_of_ble_eq_true rfl) ?_
      refine (c_line G l o as M0 N S d σc1 (2 * node - 2 + 1) (0) (0) _ _ _ (1) (0) (0) (lN_i' _) (lN_i' _) (lN_i' _) (by omega) (by omega) (by omega) (n + 1) (by omega) _ lc1).mono (fun x σc2 hp => ?_)
      obtain ⟨rfl, qc2, lc2⟩ := hp
      intro M hM
      have oc2 : onlyL σ σc2 := (oc1).trans qc2
      show xX G l _ (d + 1) _ _ _ [] M N S
      refine x_aload_n (q := 182) dX9_nodeLines_181 rfl rfl ?_
      refine m_get (q := 185) hM 8 fwX9_26 (by decide) dX9_nodeLines_182 rfl rfl ?_
      refine x_iload_n (q := 186) dX9_nodeLines_185 rfl rfl ?_
      refine m_zald (q := 187) hM (n := 4) (by decide) dX9_nodeLines_186 rfl (by omega) ?_
      rw [(oc2).2.1, hTn, hU]
      refine x_if_eq (q := 190) 209 dX9_nodeLines_187 (by decide) rfl (fun hc187 => absurd hc187 (by decide)) (fun hc187 => ?_)
      refine x_iload (q := 192) dX9_nodeLines_190 rfl rfl ?_
      refine xn_if_eq (q := 195) 209 dX9_nodeLines_192 (by decide) rfl (by omega) (fun hc192 => ?_) (fun hc192 => absurd hc192 (by decide))
      refine x_aload_n (q := 210) dX9_nodeLines_209 rfl rfl ?_
      refine m_get (q := 213) hM 8 fwX9_26 (by decide) dX9_nodeLines_210 rfl rfl ?_
      refine x_iload_n (q := 214) dX9_nodeLines_213 rfl rfl ?_
      refine m_zald (q := 215) hM (n := 4) (by decide) dX9_nodeLines_214 rfl (by omega) ?_
      rw [(oc2).2.1, hTn, hU]
      refine x_if_ne (q := 218) 246 dX9_nodeLines_215 (by decide) rfl (fun hc215 => ?_) (fun hc215 => absurd hc215 (by decide))
      refine x_vret rfl dX9_nodeLines_246 (m_ret hM ⟨rfl, oc2, ?_⟩)
      simp only [nlP, h0, hR0, hB, hl, hg, hU, decide_true, decide_false, Bool.not_true, Bool.not_false, Bool.and_true, Bool.true_and, Bool.and_false, Bool.false_and, Bool.and_self, if_true, if_false, reduceIte, Bool.false_eq_true]
      exact lc2
    · refine x_iload_n (q := 1) dX9_nodeLines_0 rfl rfl ?_
      refine x_aload_n (q := 2) dX9_nodeLines_1 rfl rfl ?_
      refine m_get (q := 5) hM 3 fwX9_93 (by decide) dX9_nodeLines_2 rfl rfl ?_
      rw [(onlyL.rfl').1 3 (by decide), hm]
      refine xn_icmp_ge (q := 8) 12 dX9_nodeLines_5 (by decide) rfl (by omega) (by omega) (fun hc5 => absurd hc5 (by omega)) (fun hc5 => ?_)
      refine xn_iconst (q := 9) 1 dX9_nodeLines_8 rfl (by decide) ?_
      refine x_goto 13 dX9_nodeLines_9 (by decide) ?_
      refine x_istore_n (q := 14) (ls' := [(0, _), (1, _), (2, _)]) [1, 2, 0] dX9_nodeLines_13 rfl (by decide) rfl ?_
      refine xn_iconst (q := 15) 2 dX9_nodeLines_14 rfl (by decide) ?_
      refine x_iload_n (q := 16) dX9_nodeLines_15 rfl rfl ?_
      refine xn_imul (q := 17) dX9_nodeLines_16 rfl ?_
      refine xn_iconst (q := 18) 2 dX9_nodeLines_17 rfl (by decide) ?_
      refine xn_isub (q := 19) dX9_nodeLines_18 rfl (by omega) ?_
      refine x_istore_n (q := 20) (ls' := [(0, _), (1, _), (2, _), (3, _)]) [1, 2, 3, 0] dX9_nodeLines_19 rfl (by decide) rfl ?_
      refine x_iload_n (q := 21) dX9_nodeLines_20 rfl rfl ?_
      refine xn_if_le (q := 24) 52 dX9_nodeLines_21 (by decide) rfl (by omega) (fun hc21 => absurd hc21 (by omega)) (fun hc21 => ?_)
      refine x_iload_n (q := 25) dX9_nodeLines_24 rfl rfl ?_
      refine xn_if_eq (q := 28) 52 dX9_nodeLines_25 (by decide) rfl (by omega) (fun hc25 => absurd hc25 (by decide)) (fun hc25 => ?_)
      refine x_aload_n (q := 29) dX9_nodeLines_28 rfl rfl ?_
      refine x_iload_n (q := 30) dX9_nodeLines_29 rfl rfl ?_
      refine xn_lconst (q := 31) 1 dX9_nodeLines_30 rfl (by decide) ?_
      refine x_iload_n (q := 32) dX9_nodeLines_31 rfl rfl ?_
      refine xn_iconst (q := 33) 1 dX9_nodeLines_32 rfl (by decide) ?_
      refine xn_iadd (q := 34) dX9_nodeLines_33 rfl ?_
      refine x_aload_n (q := 35) dX9_nodeLines_34 rfl rfl ?_
      refine m_get (q := 38) hM 4 fwX9_13 (by decide) dX9_nodeLines_35 rfl rfl ?_
      refine x_iload_n (q := 39) dX9_nodeLines_38 rfl rfl ?_
      refine xn_iconst (q := 40) 1 dX9_nodeLines_39 rfl (by decide) ?_
      refine xn_isub (q := 41) dX9_nodeLines_40 rfl (by omega) ?_
      refine m_iald (q := 42) hM (n := 3) (by decide) dX9_nodeLines_41 rfl (by omega) ?_
      rw [(onlyL.rfl').2.1, hL1]
      refine xn_i2l (q := 43) dX9_nodeLines_42 rfl (by omega) ?_
      refine xn_iconst (q := 44) 2 dX9_nodeLines_43 rfl (by decide) ?_
      refine x_iload_n (q := 45) dX9_nodeLines_44 rfl rfl ?_
      refine xn_imul (q := 46) dX9_nodeLines_45 rfl ?_
      refine x_ldc2 (q := 49) (-1) dX9_nodeLines_46 rfl cwX9_176 ?_
      refine x_topl (y := iL (-1)) (by decide) ?_
      refine m_call (q := 52) (As := [_, _, _, _, _, _]) hM imX9_line ivX9_line ilX9_line mwX9_234 xciX9 dX9_nodeLines_49 rfl rfl rfl (Nat.le_of_ble_eq_true rfl) ?_
      refine (c_line G l o as M0 N S d σ (2 * node - 2) (2 * node - 2 + 1) (2 * node) _ _ _ (1) (c.L (node - 1)) (-1) (lN_i' _) (lN_i' _) rfl (by omega) (by omega) (by omega) (n) (by omega) _ hR).mono (fun x σc1 hp => ?_)
      obtain ⟨rfl, qc1, lc1⟩ := hp
      intro M hM
      have oc1 : onlyL σ σc1 := (onlyL.rfl').trans qc1
      show xX G l _ (d + 1) _ _ _ [] M N S
      refine x_aload_n (q := 53) dX9_nodeLines_52 rfl rfl ?_
      refine m_get (q := 56) hM 7 fwX9_23 (by decide) dX9_nodeLines_53 rfl rfl ?_
      refine x_iload_n (q := 57) dX9_nodeLines_56 rfl rfl ?_
      refine m_zald (q := 58) hM (n := 4) (by decide) dX9_nodeLines_57 rfl (by omega) ?_
      rw [(oc1).2.1, hHn, hB]
      refine x_if_eq (q := 61) 109 dX9_nodeLines_58 (by decide) rfl (fun hc58 => ?_) (fun hc58 => absurd (by decide) hc58)
      refine x_iload_n (q := 110) dX9_nodeLines_109 rfl rfl ?_
      refine xn_if_le (q := 113) 130 dX9_nodeLines_110 (by decide) rfl (by omega) (fun hc110 => absurd hc110 (by omega)) (fun hc110 => ?_)
      refine x_aload_n (q := 114) dX9_nodeLines_113 rfl rfl ?_
      refine m_get (q := 117) hM 6 fwX9_19 (by decide) dX9_nodeLines_114 rfl rfl ?_
      refine xn_iconst (q := 118) 2 dX9_nodeLines_117 rfl (by decide) ?_
      refine x_iload_n (q := 119) dX9_nodeLines_118 rfl rfl ?_
      refine xn_imul (q := 120) dX9_nodeLines_119 rfl ?_
      refine xn_iconst (q := 121) 1 dX9_nodeLines_120 rfl (by decide) ?_
      refine xn_isub (q := 122) dX9_nodeLines_121 rfl (by omega) ?_
      refine m_zald (q := 123) hM (n := 6) (by decide) dX9_nodeLines_122 rfl (by omega) ?_
      rw [(oc1).2.1, hHl, hl]
      refine x_if_ne (q := 126) 130 dX9_nodeLines_123 (by decide) rfl (fun hc123 => ?_) (fun hc123 => absurd hc123 (by decide))
      refine xn_iconst (q := 131) 0 dX9_nodeLines_130 rfl (by decide) ?_
      refine x_istore (q := 133) (ls' := [(0, _), (1, _), (2, _), (3, _), (4, _)]) [1, 2, 3, 4, 0] dX9_nodeLines_131 rfl (by decide) rfl ?_
      refine x_iload_n (q := 134) dX9_nodeLines_133 rfl rfl ?_
      refine xn_if_eq (q := 137) 152 dX9_nodeLines_134 (by decide) rfl (by omega) (fun hc134 => absurd hc134 (by decide)) (fun hc134 => ?_)
      refine x_aload_n (q := 138) dX9_nodeLines_137 rfl rfl ?_
      refine m_get (q := 141) hM 6 fwX9_19 (by decide) dX9_nodeLines_138 rfl rfl ?_
      refine xn_iconst (q := 142) 2 dX9_nodeLines_141 rfl (by decide) ?_
      refine x_iload_n (q := 143) dX9_nodeLines_142 rfl rfl ?_
      refine xn_imul (q := 144) dX9_nodeLines_143 rfl ?_
      refine m_zald (q := 145) hM (n := 6) (by decide) dX9_nodeLines_144 rfl (by omega) ?_
      rw [(oc1).2.1, hHr hR0, hg]
      refine x_if_ne (q := 148) 152 dX9_nodeLines_145 (by decide) rfl (fun hc145 => absurd hc145 (by decide)) (fun hc145 => ?_)
      refine xn_iconst (q := 149) 1 dX9_nodeLines_148 rfl (by decide) ?_
      refine x_goto 153 dX9_nodeLines_149 (by decide) ?_
      refine x_istore (q := 155) (ls' := [(0, _), (1, _), (2, _), (3, _), (4, _), (5, _)]) [1, 2, 3, 4, 5, 0] dX9_nodeLines_153 rfl (by decide) rfl ?_
      refine x_aload_n (q := 156) dX9_nodeLines_155 rfl rfl ?_
      refine m_get (q := 159) hM 8 fwX9_26 (by decide) dX9_nodeLines_156 rfl rfl ?_
      refine x_iload_n (q := 160) dX9_nodeLines_159 rfl rfl ?_
      refine m_zald (q := 161) hM (n := 4) (by decide) dX9_nodeLines_160 rfl (by omega) ?_
      rw [(oc1).2.1, hTn, hU]
      refine x_if_eq (q := 164) 181 dX9_nodeLines_161 (by decide) rfl (fun hc161 => ?_) (fun hc161 => absurd (by decide) hc161)
      refine x_aload_n (q := 182) dX9_nodeLines_181 rfl rfl ?_
      refine m_get (q := 185) hM 8 fwX9_26 (by decide) dX9_nodeLines_182 rfl rfl ?_
      refine x_iload_n (q := 186) dX9_nodeLines_185 rfl rfl ?_
      refine m_zald (q := 187) hM (n := 4) (by decide) dX9_nodeLines_186 rfl (by omega) ?_
      rw [(oc1).2.1, hTn, hU]
      refine x_if_eq (q := 190) 209 dX9_nodeLines_187 (by decide) rfl (fun hc187 => ?_) (fun hc187 => absurd (by decide) hc187)
      refine x_aload_n (q := 210) dX9_nodeLines_209 rfl rfl ?_
      refine m_get (q := 213) hM 8 fwX9_26 (by decide) dX9_nodeLines_210 rfl rfl ?_
      refine x_iload_n (q := 214) dX9_nodeLines_213 rfl rfl ?_
      refine m_zald (q := 215) hM (n := 4) (by decide) dX9_nodeLines_214 rfl (by omega) ?_
      rw [(oc1).2.1, hTn, hU]
      refine x_if_ne (q := 218) 246 dX9_nodeLines_215 (by decide) rfl (fun hc215 => absurd hc215 (by decide)) (fun hc215 => ?_)
      refine x_iload (q := 220) dX9_nodeLines_218 rfl rfl ?_
      refine xn_if_eq (q := 223) 246 dX9_nodeLines_220 (by decide) rfl (by omega) (fun hc220 => ?_) (fun hc220 => absurd hc220 (by decide))
      refine x_vret rfl dX9_nodeLines_246 (m_ret hM ⟨rfl, oc1, ?_⟩)
      simp only [nlP, h0, hR0, hB, hl, hg, hU, decide_true, decide_false, Bool.not_true, Bool.not_false, Bool.and_true, Bool.true_and, Bool.and_false, Bool.false_and, Bool.and_self, if_true, if_false, reduceIte, Bool.false_eq_true]
      exact lc1
    · refine x_iload_n (q := 1) dX9_nodeLines_0 rfl rfl ?_
      refine x_aload_n (q := 2) dX9_nodeLines_1 rfl rfl ?_
      refine m_get (q := 5) hM 3 fwX9_93 (by decide) dX9_nodeLines_2 rfl rfl ?_
      rw [(onlyL.rfl').1 3 (by decide), hm]
      refine xn_icmp_ge (q := 8) 12 dX9_nodeLines_5 (by decide) rfl (by omega) (by omega) (fun hc5 => absurd hc5 (by omega)) (fun hc5 => ?_)
      refine xn_iconst (q := 9) 1 dX9_nodeLines_8 rfl (by decide) ?_
      refine x_goto 13 dX9_nodeLines_9 (by decide) ?_
      refine x_istore_n (q := 14) (ls' := [(0, _), (1, _), (2, _)]) [1, 2, 0] dX9_nodeLines_13 rfl (by decide) rfl ?_
      refine xn_iconst (q := 15) 2 dX9_nodeLines_14 rfl (by decide) ?_
      refine x_iload_n (q := 16) dX9_nodeLines_15 rfl rfl ?_
      refine xn_imul (q := 17) dX9_nodeLines_16 rfl ?_
      refine xn_iconst (q := 18) 2 dX9_nodeLines_17 rfl (by decide) ?_
      refine xn_isub (q := 19) dX9_nodeLines_18 rfl (by omega) ?_
      refine x_istore_n (q := 20) (ls' := [(0, _), (1, _), (2, _), (3, _)]) [1, 2, 3, 0] dX9_nodeLines_19 rfl (by decide) rfl ?_
      refine x_iload_n (q := 21) dX9_nodeLines_20 rfl rfl ?_
      refine xn_if_le (q := 24) 52 dX9_nodeLines_21 (by decide) rfl (by omega) (fun hc21 => absurd hc21 (by omega)) (fun hc21 => ?_)
      refine x_iload_n (q := 25) dX9_nodeLines_24 rfl rfl ?_
      refine xn_if_eq (q := 28) 52 dX9_nodeLines_25 (by decide) rfl (by omega) (fun hc25 => absurd hc25 (by decide)) (fun hc25 => ?_)
      refine x_aload_n (q := 29) dX9_nodeLines_28 rfl rfl ?_
      refine x_iload_n (q := 30) dX9_nodeLines_29 rfl rfl ?_
      refine xn_lconst (q := 31) 1 dX9_nodeLines_30 rfl (by decide) ?_
      refine x_iload_n (q := 32) dX9_nodeLines_31 rfl rfl ?_
      refine xn_iconst (q := 33) 1 dX9_nodeLines_32 rfl (by decide) ?_
      refine xn_iadd (q := 34) dX9_nodeLines_33 rfl ?_
      refine x_aload_n (q := 35) dX9_nodeLines_34 rfl rfl ?_
      refine m_get (q := 38) hM 4 fwX9_13 (by decide) dX9_nodeLines_35 rfl rfl ?_
      refine x_iload_n (q := 39) dX9_nodeLines_38 rfl rfl ?_
      refine xn_iconst (q := 40) 1 dX9_nodeLines_39 rfl (by decide) ?_
      refine xn_isub (q := 41) dX9_nodeLines_40 rfl (by omega) ?_
      refine m_iald (q := 42) hM (n := 3) (by decide) dX9_nodeLines_41 rfl (by omega) ?_
      rw [(onlyL.rfl').2.1, hL1]
      refine xn_i2l (q := 43) dX9_nodeLines_42 rfl (by omega) ?_
      refine xn_iconst (q := 44) 2 dX9_nodeLines_43 rfl (by decide) ?_
      refine x_iload_n (q := 45) dX9_nodeLines_44 rfl rfl ?_
      refine xn_imul (q := 46) dX9_nodeLines_45 rfl ?_
      refine x_ldc2 (q := 49) (-1) dX9_nodeLines_46 rfl cwX9_176 ?_
      refine x_topl (y := iL (-1)) (by decide) ?_
      refine m_call (q := 52) (As := [_, _, _, _, _, _]) hM imX9_line ivX9_line ilX9_line mwX9_234 xciX9 dX9_nodeLines_49 rfl rfl rfl (Nat.le_of_ble_eq_true rfl) ?_
      refine (c_line G l o as M0 N S d σ (2 * node - 2) (2 * node - 2 + 1) (2 * node) _ _ _ (1) (c.L (node - 1)) (-1) (lN_i' _) (lN_i' _) rfl (by omega) (by omega) (by omega) (n) (by omega) _ hR).mono (fun x σc1 hp => ?_)
      obtain ⟨rfl, qc1, lc1⟩ := hp
      intro M hM
      have oc1 : onlyL σ σc1 := (onlyL.rfl').trans qc1
      show xX G l _ (d + 1) _ _ _ [] M N S
      refine x_aload_n (q := 53) dX9_nodeLines_52 rfl rfl ?_
      refine m_get (q := 56) hM 7 fwX9_23 (by decide) dX9_nodeLines_53 rfl rfl ?_
      refine x_iload_n (q := 57) dX9_nodeLines_56 rfl rfl ?_
      refine m_zald (q := 58) hM (n := 4) (by decide) dX9_nodeLines_57 rfl (by omega) ?_
      rw [(oc1).2.1, hHn, hB]
      refine x_if_eq (q := 61) 109 dX9_nodeLines_58 (by decide) rfl (fun hc58 => ?_) (fun hc58 => absurd (by decide) hc58)
      refine x_iload_n (q := 110) dX9_nodeLines_109 rfl rfl ?_
      refine xn_if_le (q := 113) 130 dX9_nodeLines_110 (by decide) rfl (by omega) (fun hc110 => absurd hc110 (by omega)) (fun hc110 => ?_)
      refine x_aload_n (q := 114) dX9_nodeLines_113 rfl rfl ?_
      refine m_get (q := 117) hM 6 fwX9_19 (by decide) dX9_nodeLines_114 rfl rfl ?_
      refine xn_iconst (q := 118) 2 dX9_nodeLines_117 rfl (by decide) ?_
      refine x_iload_n (q := 119) dX9_nodeLines_118 rfl rfl ?_
      refine xn_imul (q := 120) dX9_nodeLines_119 rfl ?_
      refine xn_iconst (q := 121) 1 dX9_nodeLines_120 rfl (by decide) ?_
      refine xn_isub (q := 122) dX9_nodeLines_121 rfl (by omega) ?_
      refine m_zald (q := 123) hM (n := 6) (by decide) dX9_nodeLines_122 rfl (by omega) ?_
      rw [(oc1).2.1, hHl, hl]
      refine x_if_ne (q := 126) 130 dX9_nodeLines_123 (by decide) rfl (fun hc123 => ?_) (fun hc123 => absurd hc123 (by decide))
      refine xn_iconst (q := 131) 0 dX9_nodeLines_130 rfl (by decide) ?_
      refine x_istore (q := 133) (ls' := [(0, _), (1, _), (2, _), (3, _), (4, _)]) [1, 2, 3, 4, 0] dX9_nodeLines_131 rfl (by decide) rfl ?_
      refine x_iload_n (q := 134) dX9_nodeLines_133 rfl rfl ?_
      refine xn_if_eq (q := 137) 152 dX9_nodeLines_134 (by decide) rfl (by omega) (fun hc134 => absurd hc134 (by decide)) (fun hc134 => ?_)
      refine x_aload_n (q := 138) dX9_nodeLines_137 rfl rfl ?_
      refine m_get (q := 141) hM 6 fwX9_19 (by decide) dX9_nodeLines_138 rfl rfl ?_
      refine xn_iconst (q := 142) 2 dX9_nodeLines_141 rfl (by decide) ?_
      refine x_iload_n (q := 143) dX9_nodeLines_142 rfl rfl ?_
      refine xn_imul (q := 144) dX9_nodeLines_143 rfl ?_
      refine m_zald (q := 145) hM (n := 6) (by decide) dX9_nodeLines_144 rfl (by omega) ?_
      rw [(oc1).2.1, hHr hR0, hg]
      refine x_if_ne (q := 148) 152 dX9_nodeLines_145 (by decide) rfl (fun hc145 => absurd hc145 (by decide)) (fun hc145 => ?_)
      refine xn_iconst (q := 149) 1 dX9_nodeLines_148 rfl (by decide) ?_
      refine x_goto 153 dX9_nodeLines_149 (by decide) ?_
      refine x_istore (q := 155) (ls' := [(0, _), (1, _), (2, _), (3, _), (4, _), (5, _)]) [1, 2, 3, 4, 5, 0] dX9_nodeLines_153 rfl (by decide) rfl ?_
      refine x_aload_n (q := 156) dX9_nodeLines_155 rfl rfl ?_
      refine m_get (q := 159) hM 8 fwX9_26 (by decide) dX9_nodeLines_156 rfl rfl ?_
      refine x_iload_n (q := 160) dX9_nodeLines_159 rfl rfl ?_
      refine m_zald (q := 161) hM (n := 4) (by decide) dX9_nodeLines_160 rfl (by omega) ?_
      rw [(oc1).2.1, hTn, hU]
      refine x_if_eq (q := 164) 181 dX9_nodeLines_161 (by decide) rfl (fun hc161 => absurd hc161 (by decide)) (fun hc161 => ?_)
      refine x_iload (q := 166) dX9_nodeLines_164 rfl rfl ?_
      refine xn_if_eq (q := 169) 181 dX9_nodeLines_166 (by decide) rfl (by omega) (fun hc166 => ?_) (fun hc166 => absurd hc166 (by decide))
      refine x_aload_n (q := 182) dX9_nodeLines_181 rfl rfl ?_
      refine m_get (q := 185) hM 8 fwX9_26 (by decide) dX9_nodeLines_182 rfl rfl ?_
      refine x_iload_n (q := 186) dX9_nodeLines_185 rfl rfl ?_
      refine m_zald (q := 187) hM (n := 4) (by decide) dX9_nodeLines_186 rfl (by omega) ?_
      rw [(oc1).2.1, hTn, hU]
      refine x_if_eq (q := 190) 209 dX9_nodeLines_187 (by decide) rfl (fun hc187 => absurd hc187 (by decide)) (fun hc187 => ?_)
      refine x_iload (q := 192) dX9_nodeLines_190 rfl rfl ?_
      refine xn_if_eq (q := 195) 209 dX9_nodeLines_192 (by decide) rfl (by omega) (fun hc192 => absurd hc192 (by decide)) (fun hc192 => ?_)
      refine x_aload_n (q := 196) dX9_nodeLines_195 rfl rfl ?_
      refine xn_iconst (q := 197) 2 dX9_nodeLines_196 rfl (by decide) ?_
      refine x_iload_n (q := 198) dX9_nodeLines_197 rfl rfl ?_
      refine xn_imul (q := 199) dX9_nodeLines_198 rfl ?_
      refine xn_iconst (q := 200) 1 dX9_nodeLines_199 rfl (by decide) ?_
      refine xn_iadd (q := 201) dX9_nodeLines_200 rfl ?_
      refine xn_lconst (q := 202) 1 dX9_nodeLines_201 rfl (by decide) ?_
      refine xn_iconst (q := 203) 0 dX9_nodeLines_202 rfl (by decide) ?_
      refine xn_lconst (q := 204) 0 dX9_nodeLines_203 rfl (by decide) ?_
      refine xn_iconst (q := 205) 0 dX9_nodeLines_204 rfl (by decide) ?_
      refine xn_lconst (q := 206) 0 dX9_nodeLines_205 rfl (by decide) ?_
      refine m_call (q := 209) (As := [_, _, _, _, _, _]) hM imX9_line ivX9_line ilX9_line mwX9_234 xciX9 dX9_nodeLines_206 rfl rfl rfl (Nat.le_of_ble_eq_true rfl) ?_
      refine (c_line G l o as M0 N S d σc1 (2 * node + 1) (0) (0) _ _ _ (1) (0) (0) (lN_i' _) (lN_i' _) (lN_i' _) (by omega) (by omega) (by omega) (n + 1) (by omega) _ lc1).mono (fun x σc2 hp => ?_)
      obtain ⟨rfl, qc2, lc2⟩ := hp
      intro M hM
      have oc2 : onlyL σ σc2 := (oc1).trans qc2
      show xX G l _ (d + 1) _ _ _ [] M N S
      refine x_aload_n (q := 210) dX9_nodeLines_209 rfl rfl ?_
      refine m_get (q := 213) hM 8 fwX9_26 (by decide) dX9_nodeLines_210 rfl rfl ?_
      refine x_iload_n (q := 214) dX9_nodeLines_213 rfl rfl ?_
      refine m_zald (q := 215) hM (n := 4) (by decide) dX9_nodeLines_214 rfl (by omega) ?_
      rw [(oc2).2.1, hTn, hU]
      refine x_if_ne (q := 218) 246 dX9_nodeLines_215 (by decide) rfl (fun hc215 => ?_) (fun hc215 => absurd hc215 (by decide))
      refine x_vret rfl dX9_nodeLines_246 (m_ret hM ⟨rfl, oc2, ?_⟩)
      simp only [nlP, h0, hR0, hB, hl, hg, hU, decide_true, decide_false, Bool.not_true, Bool.not_false, Bool.and_true, Bool.true_and, Bool.and_false, Bool.false_and, Bool.and_self, if_true, if_false, reduceIte, Bool.false_eq_true]
      exact lc2
    · refine x_iload_n (q := 1) dX9_nodeLines_0 rfl rfl ?_
      refine x_aload_n (q := 2) dX9_nodeLines_1 rfl rfl ?_
      refine m_get (q := 5) hM 3 fwX9_93 (by decide) dX9_nodeLines_2 rfl rfl ?_
      rw [(onlyL.rfl').1 3 (by decide), hm]
      refine xn_icmp_ge (q := 8) 12 dX9_nodeLines_5 (by decide) rfl (by omega) (by omega) (fun hc5 => absurd hc5 (by omega)) (fun hc5 => ?_)
      refine xn_iconst (q := 9) 1 dX9_nodeLines_8 rfl (by decide) ?_
      refine x_goto 13 dX9_nodeLines_9 (by decide) ?_
      refine x_istore_n (q := 14) (ls' := [(0, _), (1, _), (2, _)]) [1, 2, 0] dX9_nodeLines_13 rfl (by decide) rfl ?_
      refine xn_iconst (q := 15) 2 dX9_nodeLines_14 rfl (by decide) ?_
      refine x_iload_n (q := 16) dX9_nodeLines_15 rfl rfl ?_
      refine xn_imul (q := 17) dX9_nodeLines_16 rfl ?_
      refine xn_iconst (q := 18) 2 dX9_nodeLines_17 rfl (by decide) ?_
      refine xn_isub (q := 19) dX9_nodeLines_18 rfl (by omega) ?_
      refine x_istore_n (q := 20) (ls' := [(0, _), (1, _), (2, _), (3, _)]) [1, 2, 3, 0] dX9_nodeLines_19 rfl (by decide) rfl ?_
      refine x_iload_n (q := 21) dX9_nodeLines_20 rfl rfl ?_
      refine xn_if_le (q := 24) 52 dX9_nodeLines_21 (by decide) rfl (by omega) (fun hc21 => absurd hc21 (by omega)) (fun hc21 => ?_)
      refine x_iload_n (q := 25) dX9_nodeLines_24 rfl rfl ?_
      refine xn_if_eq (q := 28) 52 dX9_nodeLines_25 (by decide) rfl (by omega) (fun hc25 => absurd hc25 (by decide)) (fun hc25 => ?_)
      refine x_aload_n (q := 29) dX9_nodeLines_28 rfl rfl ?_
      refine x_iload_n (q := 30) dX9_nodeLines_29 rfl rfl ?_
      refine xn_lconst (q := 31) 1 dX9_nodeLines_30 rfl (by decide) ?_
      refine x_iload_n (q := 32) dX9_nodeLines_31 rfl rfl ?_
      refine xn_iconst (q := 33) 1 dX9_nodeLines_32 rfl (by decide) ?_
      refine xn_iadd (q := 34) dX9_nodeLines_33 rfl ?_
      refine x_aload_n (q := 35) dX9_nodeLines_34 rfl rfl ?_
      refine m_get (q := 38) hM 4 fwX9_13 (by decide) dX9_nodeLines_35 rfl rfl ?_
      refine x_iload_n (q := 39) dX9_nodeLines_38 rfl rfl ?_
      refine xn_iconst (q := 40) 1 dX9_nodeLines_39 rfl (by decide) ?_
      refine xn_isub (q := 41) dX9_nodeLines_40 rfl (by omega) ?_
      refine m_iald (q := 42) hM (n := 3) (by decide) dX9_nodeLines_41 rfl (by omega) ?_
      rw [(onlyL.rfl').2.1, hL1]
      refine xn_i2l (q := 43) dX9_nodeLines_42 rfl (by omega) ?_
      refine xn_iconst (q := 44) 2 dX9_nodeLines_43 rfl (by decide) ?_
      refine x_iload_n (q := 45) dX9_nodeLines_44 rfl rfl ?_
      refine xn_imul (q := 46) dX9_nodeLines_45 rfl ?_
      refine x_ldc2 (q := 49) (-1) dX9_nodeLines_46 rfl cwX9_176 ?_
      refine x_topl (y := iL (-1)) (by decide) ?_
      refine m_call (q := 52) (As := [_, _, _, _, _, _]) hM imX9_line ivX9_line ilX9_line mwX9_234 xciX9 dX9_nodeLines_49 rfl rfl rfl (Nat.le_of_ble_eq_true rfl) ?_
      refine (c_line G l o as M0 N S d σ (2 * node - 2) (2 * node - 2 + 1) (2 * node) _ _ _ (1) (c.L (node - 1)) (-1) (lN_i' _) (lN_i' _) rfl (by omega) (by omega) (by omega) (n) (by omega) _ hR).mono (fun x σc1 hp => ?_)
      obtain ⟨rfl, qc1, lc1⟩ := hp
      intro M hM
      have oc1 : onlyL σ σc1 := (onlyL.rfl').trans qc1
      show xX G l _ (d + 1) _ _ _ [] M N S
      refine x_aload_n (q := 53) dX9_nodeLines_52 rfl rfl ?_
      refine m_get (q := 56) hM 7 fwX9_23 (by decide) dX9_nodeLines_53 rfl rfl ?_
      refine x_iload_n (q := 57) dX9_nodeLines_56 rfl rfl ?_
      refine m_zald (q := 58) hM (n := 4) (by decide) dX9_nodeLines_57 rfl (by omega) ?_
      rw [(oc1).2.1, hHn, hB]
      refine x_if_eq (q := 61) 109 dX9_nodeLines_58 (by decide) rfl (fun hc58 => ?_) (fun hc58 => absurd (by decide) hc58)
      refine x_iload_n (q := 110) dX9_nodeLines_109 rfl rfl ?_
      refine xn_if_le (q := 113) 130 dX9_nodeLines_110 (by decide) rfl (by omega) (fun hc110 => absurd hc110 (by omega)) (fun hc110 => ?_)
      refine x_aload_n (q := 114) dX9_nodeLines_113 rfl rfl ?_
      refine m_get (q := 117) hM 6 fwX9_19 (by decide) dX9_nodeLines_114 rfl rfl ?_
      refine xn_iconst (q := 118) 2 dX9_nodeLines_117 rfl (by decide) ?_
      refine x_iload_n (q := 119) dX9_nodeLines_118 rfl rfl ?_
      refine xn_imul (q := 120) dX9_nodeLines_119 rfl ?_
      refine xn_iconst (q := 121) 1 dX9_nodeLines_120 rfl (by decide) ?_
      refine xn_isub (q := 122) dX9_nodeLines_121 rfl (by omega) ?_
      refine m_zald (q := 123) hM (n := 6) (by decide) dX9_nodeLines_122 rfl (by omega) ?_
      rw [(oc1).2.1, hHl, hl]
      refine x_if_ne (q := 126) 130 dX9_nodeLines_123 (by decide) rfl (fun hc123 => ?_) (fun hc123 => absurd hc123 (by decide))
      refine xn_iconst (q := 131) 0 dX9_nodeLines_130 rfl (by decide) ?_
      refine x_istore (q := 133) (ls' := [(0, _), (1, _), (2, _), (3, _), (4, _)]) [1, 2, 3, 4, 0] dX9_nodeLines_131 rfl (by decide) rfl ?_
      refine x_iload_n (q := 134) dX9_nodeLines_133 rfl rfl ?_
      refine xn_if_eq (q := 137) 152 dX9_nodeLines_134 (by decide) rfl (by omega) (fun hc134 => absurd hc134 (by decide)) (fun hc134 => ?_)
      refine x_aload_n (q := 138) dX9_nodeLines_137 rfl rfl ?_
      refine m_get (q := 141) hM 6 fwX9_19 (by decide) dX9_nodeLines_138 rfl rfl ?_
      refine xn_iconst (q := 142) 2 dX9_nodeLines_141 rfl (by decide) ?_
      refine x_iload_n (q := 143) dX9_nodeLines_142 rfl rfl ?_
      refine xn_imul (q := 144) dX9_nodeLines_143 rfl ?_
      refine m_zald (q := 145) hM (n := 6) (by decide) dX9_nodeLines_144 rfl (by omega) ?_
      rw [(oc1).2.1, hHr hR0, hg]
      refine x_if_ne (q := 148) 152 dX9_nodeLines_145 (by decide) rfl (fun hc145 => ?_) (fun hc145 => absurd hc145 (by decide))
      refine xn_iconst (q := 153) 0 dX9_nodeLines_152 rfl (by decide) ?_
      refine x_istore (q := 155) (ls' := [(0, _), (1, _), (2, _), (3, _), (4, _), (5, _)]) [1, 2, 3, 4, 5, 0] dX9_nodeLines_153 rfl (by decide) rfl ?_
      refine x_aload_n (q := 156) dX9_nodeLines_155 rfl rfl ?_
      refine m_get (q := 159) hM 8 fwX9_26 (by decide) dX9_nodeLines_156 rfl rfl ?_
      refine x_iload_n (q := 160) dX9_nodeLines_159 rfl rfl ?_
      refine m_zald (q := 161) hM (n := 4) (by decide) dX9_nodeLines_160 rfl (by omega) ?_
      rw [(oc1).2.1, hTn, hU]
      refine x_if_eq (q := 164) 181 dX9_nodeLines_161 (by decide) rfl (fun hc161 => ?_) (fun hc161 => absurd (by decide) hc161)
      refine x_aload_n (q := 182) dX9_nodeLines_181 rfl rfl ?_
      refine m_get (q := 185) hM 8 fwX9_26 (by decide) dX9_nodeLines_182 rfl rfl ?_
      refine x_iload_n (q := 186) dX9_nodeLines_185 rfl rfl ?_
      refine m_zald (q := 187) hM (n := 4) (by decide) dX9_nodeLines_186 rfl (by omega) ?_
      rw [(oc1).2.1, hTn, hU]
      refine x_if_eq (q := 190) 209 dX9_nodeLines_187 (by decide) rfl (fun hc187 => ?_) (fun hc187 => absurd (by decide) hc187)
      refine x_aload_n (q := 210) dX9_nodeLines_209 rfl rfl ?_
      refine m_get (q := 213) hM 8 fwX9_26 (by decide) dX9_nodeLines_210 rfl rfl ?_
      refine x_iload_n (q := 214) dX9_nodeLines_213 rfl rfl ?_
      refine m_zald (q := 215) hM (n := 4) (by decide) dX9_nodeLines_214 rfl (by omega) ?_
      rw [(oc1).2.1, hTn, hU]
      refine x_if_ne (q := 218) 246 dX9_nodeLines_215 (by decide) rfl (fun hc215 => absurd hc215 (by decide)) (fun hc215 => ?_)
      refine x_iload (q := 220) dX9_nodeLines_218 rfl rfl ?_
      refine xn_if_eq (q := 223) 246 dX9_nodeLines_220 (by decide) rfl (by omega) (fun hc220 => ?_) (fun hc220 => absurd hc220 (by decide))
      refine x_vret rfl dX9_nodeLines_246 (m_ret hM ⟨rfl, oc1, ?_⟩)
      simp only [nlP, h0, hR0, hB, hl, hg, hU, decide_true, decide_false, Bool.not_true, Bool.not_false, Bool.and_true, Bool.true_and, Bool.and_false, Bool.false_and, Bool.and_self, if_true, if_false, reduceIte, Bool.false_eq_true]
      exact lc1
    · refine x_iload_n (q := 1) dX9_nodeLines_0 rfl rfl ?_
      refine x_aload_n (q := 2) dX9_nodeLines_1 rfl rfl ?_
      refine m_get (q := 5) hM 3 fwX9_93 (by decide) dX9_nodeLines_2 rfl rfl ?_
      rw [(onlyL.rfl').1 3 (by decide), hm]
      refine xn_icmp_ge (q := 8) 12 dX9_nodeLines_5 (by decide) rfl (by omega) (by omega) (fun hc5 => absurd hc5 (by omega)) (fun hc5 => ?_)
      refine xn_iconst (q := 9) 1 dX9_nodeLines_8 rfl (by decide) ?_
      refine x_goto 13 dX9_nodeLines_9 (by decide) ?_
      refine x_istore_n (q := 14) (ls' := [(0, _), (1, _), (2, _)]) [1, 2, 0] dX9_nodeLines_13 rfl (by decide) rfl ?_
      refine xn_iconst (q := 15) 2 dX9_nodeLines_14 rfl (by decide) ?_
      refine x_iload_n (q := 16) dX9_nodeLines_15 rfl rfl ?_
      refine xn_imul (q := 17) dX9_nodeLines_16 rfl ?_
      refine xn_iconst (q := 18) 2 dX9_nodeLines_17 rfl (by decide) ?_
      refine xn_isub (q := 19) dX9_nodeLines_18 rfl (by omega) ?_
      refine x_istore_n (q := 20) (ls' := [(0, _), (1, _), (2, _), (3, _)]) [1, 2, 3, 0] dX9_nodeLines_19 rfl (by decide) rfl ?_
      refine x_iload_n (q := 21) dX9_nodeLines_20 rfl rfl ?_
      refine xn_if_le (q := 24) 52 dX9_nodeLines_21 (by decide) rfl (by omega) (fun hc21 => absurd hc21 (by omega)) (fun hc21 => ?_)
      refine x_iload_n (q := 25) dX9_nodeLines_24 rfl rfl ?_
      refine xn_if_eq (q := 28) 52 dX9_nodeLines_25 (by decide) rfl (by omega) (fun hc25 => absurd hc25 (by decide)) (fun hc25 => ?_)
      refine x_aload_n (q := 29) dX9_nodeLines_28 rfl rfl ?_
      refine x_iload_n (q := 30) dX9_nodeLines_29 rfl rfl ?_
      refine xn_lconst (q := 31) 1 dX9_nodeLines_30 rfl (by decide) ?_
      refine x_iload_n (q := 32) dX9_nodeLines_31 rfl rfl ?_
      refine xn_iconst (q := 33) 1 dX9_nodeLines_32 rfl (by decide) ?_
      refine xn_iadd (q := 34) dX9_nodeLines_33 rfl ?_
      refine x_aload_n (q := 35) dX9_nodeLines_34 rfl rfl ?_
      refine m_get (q := 38) hM 4 fwX9_13 (by decide) dX9_nodeLines_35 rfl rfl ?_
      refine x_iload_n (q := 39) dX9_nodeLines_38 rfl rfl ?_
      refine xn_iconst (q := 40) 1 dX9_nodeLines_39 rfl (by decide) ?_
      refine xn_isub (q := 41) dX9_nodeLines_40 rfl (by omega) ?_
      refine m_iald (q := 42) hM (n := 3) (by decide) dX9_nodeLines_41 rfl (by omega) ?_
      rw [(onlyL.rfl').2.1, hL1]
      refine xn_i2l (q := 43) dX9_nodeLines_42 rfl (by omega) ?_
      refine xn_iconst (q := 44) 2 dX9_nodeLines_43 rfl (by decide) ?_
      refine x_iload_n (q := 45) dX9_nodeLines_44 rfl rfl ?_
      refine xn_imul (q := 46) dX9_nodeLines_45 rfl ?_
      refine x_ldc2 (q := 49) (-1) dX9_nodeLines_46 rfl cwX9_176 ?_
      refine x_topl (y := iL (-1)) (by decide) ?_
      refine m_call (q := 52) (As := [_, _, _, _, _, _]) hM imX9_line ivX9_line ilX9_line mwX9_234 xciX9 dX9_nodeLines_49 rfl rfl rfl (Nat.le_of_ble_eq_true rfl) ?_
      refine (c_line G l o as M0 N S d σ (2 * node - 2) (2 * node - 2 + 1) (2 * node) _ _ _ (1) (c.L (node - 1)) (-1) (lN_i' _) (lN_i' _) rfl (by omega) (by omega) (by omega) (n) (by omega) _ hR).mono (fun x σc1 hp => ?_)
      obtain ⟨rfl, qc1, lc1⟩ := hp
      intro M hM
      have oc1 : onlyL σ σc1 := (onlyL.rfl').trans qc1
      show xX G l _ (d + 1) _ _ _ [] M N S
      refine x_aload_n (q := 53) dX9_nodeLines_52 rfl rfl ?_
      refine m_get (q := 56) hM 7 fwX9_23 (by decide) dX9_nodeLines_53 rfl rfl ?_
      refine x_iload_n (q := 57) dX9_nodeLines_56 rfl rfl ?_
      refine m_zald (q := 58) hM (n := 4) (by decide) dX9_nodeLines_57 rfl (by omega) ?_
      rw [(oc1).2.1, hHn, hB]
      refine x_if_eq (q := 61) 109 dX9_nodeLines_58 (by decide) rfl (fun hc58 => ?_) (fun hc58 => absurd (by decide) hc58)
      refine x_iload_n (q := 110) dX9_nodeLines_109 rfl rfl ?_
      refine xn_if_le (q := 113) 130 dX9_nodeLines_110 (by decide) rfl (by omega) (fun hc110 => absurd hc110 (by omega)) (fun hc110 => ?_)
      refine x_aload_n (q := 114) dX9_nodeLines_113 rfl rfl ?_
      refine m_get (q := 117) hM 6 fwX9_19 (by decide) dX9_nodeLines_114 rfl rfl ?_
      refine xn_iconst (q := 118) 2 dX9_nodeLines_117 rfl (by decide) ?_
      refine x_iload_n (q := 119) dX9_nodeLines_118 rfl rfl ?_
      refine xn_imul (q := 120) dX9_nodeLines_119 rfl ?_
      refine xn_iconst (q := 121) 1 dX9_nodeLines_120 rfl (by decide) ?_
      refine xn_isub (q := 122) dX9_nodeLines_121 rfl (by omega) ?_
      refine m_zald (q := 123) hM (n := 6) (by decide) dX9_nodeLines_122 rfl (by omega) ?_
      rw [(oc1).2.1, hHl, hl]
      refine x_if_ne (q := 126) 130 dX9_nodeLines_123 (by decide) rfl (fun hc123 => ?_) (fun hc123 => absurd hc123 (by decide))
      refine xn_iconst (q := 131) 0 dX9_nodeLines_130 rfl (by decide) ?_
      refine x_istore (q := 133) (ls' := [(0, _), (1, _), (2, _), (3, _), (4, _)]) [1, 2, 3, 4, 0] dX9_nodeLines_131 rfl (by decide) rfl ?_
      refine x_iload_n (q := 134) dX9_nodeLines_133 rfl rfl ?_
      refine xn_if_eq (q := 137) 152 dX9_nodeLines_134 (by decide) rfl (by omega) (fun hc134 => absurd hc134 (by decide)) (fun hc134 => ?_)
      refine x_aload_n (q := 138) dX9_nodeLines_137 rfl rfl ?_
      refine m_get (q := 141) hM 6 fwX9_19 (by decide) dX9_nodeLines_138 rfl rfl ?_
      refine xn_iconst (q := 142) 2 dX9_nodeLines_141 rfl (by decide) ?_
      refine x_iload_n (q := 143) dX9_nodeLines_142 rfl rfl ?_
      refine xn_imul (q := 144) dX9_nodeLines_143 rfl ?_
      refine m_zald (q := 145) hM (n := 6) (by decide) dX9_nodeLines_144 rfl (by omega) ?_
      rw [(oc1).2.1, hHr hR0, hg]
      refine x_if_ne (q := 148) 152 dX9_nodeLines_145 (by decide) rfl (fun hc145 => ?_) (fun hc145 => absurd hc145 (by decide))
      refine xn_iconst (q := 153) 0 dX9_nodeLines_152 rfl (by decide) ?_
      refine x_istore (q := 155) (ls' := [(0, _), (1, _), (2, _), (3, _), (4, _), (5, _)]) [1, 2, 3, 4, 5, 0] dX9_nodeLines_153 rfl (by decide) rfl ?_
      refine x_aload_n (q := 156) dX9_nodeLines_155 rfl rfl ?_
      refine m_get (q := 159) hM 8 fwX9_26 (by decide) dX9_nodeLines_156 rfl rfl ?_
      refine x_iload_n (q := 160) dX9_nodeLines_159 rfl rfl ?_
      refine m_zald (q := 161) hM (n := 4) (by decide) dX9_nodeLines_160 rfl (by omega) ?_
      rw [(oc1).2.1, hTn, hU]
      refine x_if_eq (q := 164) 181 dX9_nodeLines_161 (by decide) rfl (fun hc161 => absurd hc161 (by decide)) (fun hc161 => ?_)
      refine x_iload (q := 166) dX9_nodeLines_164 rfl rfl ?_
      refine xn_if_eq (q := 169) 181 dX9_nodeLines_166 (by decide) rfl (by omega) (fun hc166 => ?_) (fun hc166 => absurd hc166 (by decide))
      refine x_aload_n (q := 182) dX9_nodeLines_181 rfl rfl ?_
      refine m_get (q := 185) hM 8 fwX9_26 (by decide) dX9_nodeLines_182 rfl rfl ?_
      refine x_iload_n (q := 186) dX9_nodeLines_185 rfl rfl ?_
      refine m_zald (q := 187) hM (n := 4) (by decide) dX9_nodeLines_186 rfl (by omega) ?_
      rw [(oc1).2.1, hTn, hU]
      refine x_if_eq (q := 190) 209 dX9_nodeLines_187 (by decide) rfl (fun hc187 => absurd hc187 (by decide)) (fun hc187 => ?_)
      refine x_iload (q := 192) dX9_nodeLines_190 rfl rfl ?_
      refine xn_if_eq (q := 195) 209 dX9_nodeLines_192 (by decide) rfl (by omega) (fun hc192 => ?_) (fun hc192 => absurd hc192 (by decide))
      refine x_aload_n (q := 210) dX9_nodeLines_209 rfl rfl ?_
      refine m_get (q := 213) hM 8 fwX9_26 (by decide) dX9_nodeLines_210 rfl rfl ?_
      refine x_iload_n (q := 214) dX9_nodeLines_213 rfl rfl ?_
      refine m_zald (q := 215) hM (n := 4) (by decide) dX9_nodeLines_214 rfl (by omega) ?_
      rw [(oc1).2.1, hTn, hU]
      refine x_if_ne (q := 218) 246 dX9_nodeLines_215 (by decide) rfl (fun hc215 => ?_) (fun hc215 => absurd hc215 (by decide))
      refine x_vret rfl dX9_nodeLines_246 (m_ret hM ⟨rfl, oc1, ?_⟩)
      simp only [nlP, h0, hR0, hB, hl, hg, hU, decide_true, decide_false, Bool.not_true, Bool.not_false, Bool.and_true, Bool.true_and, Bool.and_false, Bool.false_and, Bool.and_self, if_true, if_false, reduceIte, Bool.false_eq_true]
      exact lc1
    · refine x_iload_n (q := 1) dX9_nodeLines_0 rfl rfl ?_
      refine x_aload_n (q := 2) dX9_nodeLines_1 rfl rfl ?_
      refine m_get (q := 5) hM 3 fwX9_93 (by decide) dX9_nodeLines_2 rfl rfl ?_
      rw [(onlyL.rfl').1 3 (by decide), hm]
      refine xn_icmp_ge (q := 8) 12 dX9_nodeLines_5 (by decide) rfl (by omega) (by omega) (fun hc5 => absurd hc5 (by omega)) (fun hc5 => ?_)
      refine xn_iconst (q := 9) 1 dX9_nodeLines_8 rfl (by decide) ?_
      refine x_goto 13 dX9_nodeLines_9 (by decide) ?_
      refine x_istore_n (q := 14) (ls' := [(0, _), (1, _), (2, _)]) [1, 2, 0] dX9_nodeLines_13 rfl (by decide) rfl ?_
      refine xn_iconst (q := 15) 2 dX9_nodeLines_14 rfl (by decide) ?_
      refine x_iload_n (q := 16) dX9_nodeLines_15 rfl rfl ?_
      refine xn_imul (q := 17) dX9_nodeLines_16 rfl ?_
      refine xn_iconst (q := 18) 2 dX9_nodeLines_17 rfl (by decide) ?_
      refine xn_isub (q := 19) dX9_nodeLines_18 rfl (by omega) ?_
      refine x_istore_n (q := 20) (ls' := [(0, _), (1, _), (2, _), (3, _)]) [1, 2, 3, 0] dX9_nodeLines_19 rfl (by decide) rfl ?_
      refine x_iload_n (q := 21) dX9_nodeLines_20 rfl rfl ?_
      refine xn_if_le (q := 24) 52 dX9_nodeLines_21 (by decide) rfl (by omega) (fun hc21 => absurd hc21 (by omega)) (fun hc21 => ?_)
      refine x_iload_n (q := 25) dX9_nodeLines_24 rfl rfl ?_
      refine xn_if_eq (q := 28) 52 dX9_nodeLines_25 (by decide) rfl (by omega) (fun hc25 => absurd hc25 (by decide)) (fun hc25 => ?_)
      refine x_aload_n (q := 29) dX9_nodeLines_28 rfl rfl ?_
      refine x_iload_n (q := 30) dX9_nodeLines_29 rfl rfl ?_
      refine xn_lconst (q := 31) 1 dX9_nodeLines_30 rfl (by decide) ?_
      refine x_iload_n (q := 32) dX9_nodeLines_31 rfl rfl ?_
      refine xn_iconst (q := 33) 1 dX9_nodeLines_32 rfl (by decide) ?_
      refine xn_iadd (q := 34) dX9_nodeLines_33 rfl ?_
      refine x_aload_n (q := 35) dX9_nodeLines_34 rfl rfl ?_
      refine m_get (q := 38) hM 4 fwX9_13 (by decide) dX9_nodeLines_35 rfl rfl ?_
      refine x_iload_n (q := 39) dX9_nodeLines_38 rfl rfl ?_
      refine xn_iconst (q := 40) 1 dX9_nodeLines_39 rfl (by decide) ?_
      refine xn_isub (q := 41) dX9_nodeLines_40 rfl (by omega) ?_
      refine m_iald (q := 42) hM (n := 3) (by decide) dX9_nodeLines_41 rfl (by omega) ?_
      rw [(onlyL.rfl').2.1, hL1]
      refine xn_i2l (q := 43) dX9_nodeLines_42 rfl (by omega) ?_
      refine xn_iconst (q := 44) 2 dX9_nodeLines_43 rfl (by decide) ?_
      refine x_iload_n (q := 45) dX9_nodeLines_44 rfl rfl ?_
      refine xn_imul (q := 46) dX9_nodeLines_45 rfl ?_
      refine x_ldc2 (q := 49) (-1) dX9_nodeLines_46 rfl cwX9_176 ?_
      refine x_topl (y := iL (-1)) (by decide) ?_
      refine m_call (q := 52) (As := [_, _, _, _, _, _]) hM imX9_line ivX9_line ilX9_line mwX9_234 xciX9 dX9_nodeLines_49 rfl rfl rfl (Nat.le_of_ble_eq_true rfl) ?_
      refine (c_line G l o as M0 N S d σ (2 * node - 2) (2 * node - 2 + 1) (2 * node) _ _ _ (1) (c.L (node - 1)) (-1) (lN_i' _) (lN_i' _) rfl (by omega) (by omega) (by omega) (n) (by omega) _ hR).mono (fun x σc1 hp => ?_)
      obtain ⟨rfl, qc1, lc1⟩ := hp
      intro M hM
      have oc1 : onlyL σ σc1 := (onlyL.rfl').trans qc1
      show xX G l _ (d + 1) _ _ _ [] M N S
      refine x_aload_n (q := 53) dX9_nodeLines_52 rfl rfl ?_
      refine m_get (q := 56) hM 7 fwX9_23 (by decide) dX9_nodeLines_53 rfl rfl ?_
      refine x_iload_n (q := 57) dX9_nodeLines_56 rfl rfl ?_
      refine m_zald (q := 58) hM (n := 4) (by decide) dX9_nodeLines_57 rfl (by omega) ?_
      rw [(oc1).2.1, hHn, hB]
      refine x_if_eq (q := 61) 109 dX9_nodeLines_58 (by decide) rfl (fun hc58 => absurd hc58 (by decide)) (fun hc58 => ?_)
      refine x_aload_n (q := 62) dX9_nodeLines_61 rfl rfl ?_
      refine x_iload_n (q := 63) dX9_nodeLines_62 rfl rfl ?_
      refine xn_if_eq (q := 66) 72 dX9_nodeLines_63 (by decide) rfl (by omega) (fun hc63 => absurd hc63 (by decide)) (fun hc63 => ?_)
      refine xn_iconst (q := 67) 2 dX9_nodeLines_66 rfl (by decide) ?_
      refine x_iload_n (q := 68) dX9_nodeLines_67 rfl rfl ?_
      refine xn_imul (q := 69) dX9_nodeLines_68 rfl ?_
      refine x_goto 73 dX9_nodeLines_69 (by decide) ?_
      refine xn_lconst (q := 74) 1 dX9_nodeLines_73 rfl (by decide) ?_
      refine x_iload_n (q := 75) dX9_nodeLines_74 rfl rfl ?_
      refine xn_if_eq (q := 78) 84 dX9_nodeLines_75 (by decide) rfl (by omega) (fun hc75 => absurd hc75 (by decide)) (fun hc75 => ?_)
      refine xn_iconst (q := 79) 2 dX9_nodeLines_78 rfl (by decide) ?_
      refine x_iload_n (q := 80) dX9_nodeLines_79 rfl rfl ?_
      refine xn_imul (q := 81) dX9_nodeLines_80 rfl ?_
      refine x_goto 87 dX9_nodeLines_81 (by decide) ?_
      refine x_iload_n (q := 88) dX9_nodeLines_87 rfl rfl ?_
      refine xn_if_eq (q := 91) 95 dX9_nodeLines_88 (by decide) rfl (by omega) (fun hc88 => absurd hc88 (by decide)) (fun hc88 => ?_)
      refine xn_lconst (q := 92) 0 dX9_nodeLines_91 rfl (by decide) ?_
      refine x_goto 104 dX9_nodeLines_92 (by decide) ?_
      refine xn_iconst (q := 105) 0 dX9_nodeLines_104 rfl (by decide) ?_
      refine xn_lconst (q := 106) 0 dX9_nodeLines_105 rfl (by decide) ?_
      refine m_call (q := 109) (As := [_, _, _, _, _, _]) hM imX9_line ivX9_line ilX9_line mwX9_234 xciX9 dX9_nodeLines_106 rfl rfl rfl (Nat.le_of_ble_eq_true rfl) ?_
      refine (c_line G l o as M0 N S d σc1 (2 * node) (2 * node) (0) _ _ _ (1) (0) (0) (lN_i' _) (lN_i' _) (lN_i' _) (by omega) (by omega) (by omega) (n + 1) (by omega) _ lc1).mono (fun x σc2 hp => ?_)
      obtain ⟨rfl, qc2, lc2⟩ := hp
      intro M hM
      have oc2 : onlyL σ σc2 := (oc1).trans qc2
      show xX G l _ (d + 1) _ _ _ [] M N S
      refine x_iload_n (q := 110) dX9_nodeLines_109 rfl rfl ?_
      refine xn_if_le (q := 113) 130 dX9_nodeLines_110 (by decide) rfl (by omega) (fun hc110 => absurd hc110 (by omega)) (fun hc110 => ?_)
      refine x_aload_n (q := 114) dX9_nodeLines_113 rfl rfl ?_
      refine m_get (q := 117) hM 6 fwX9_19 (by decide) dX9_nodeLines_114 rfl rfl ?_
      refine xn_iconst (q := 118) 2 dX9_nodeLines_117 rfl (by decide) ?_
      refine x_iload_n (q := 119) dX9_nodeLines_118 rfl rfl ?_
      refine xn_imul (q := 120) dX9_nodeLines_119 rfl ?_
      refine xn_iconst (q := 121) 1 dX9_nodeLines_120 rfl (by decide) ?_
      refine xn_isub (q := 122) dX9_nodeLines_121 rfl (by omega) ?_
      refine m_zald (q := 123) hM (n := 6) (by decide) dX9_nodeLines_122 rfl (by omega) ?_
      rw [(oc2).2.1, hHl, hl]
      refine x_if_ne (q := 126) 130 dX9_nodeLines_123 (by decide) rfl (fun hc123 => absurd hc123 (by decide)) (fun hc123 => ?_)
      refine xn_iconst (q := 127) 1 dX9_nodeLines_126 rfl (by decide) ?_
      refine x_goto 131 dX9_nodeLines_127 (by decide) ?_
      refine x_istore (q := 133) (ls' := [(0, _), (1, _), (2, _), (3, _), (4, _)]) [1, 2, 3, 4, 0] dX9_nodeLines_131 rfl (by decide) rfl ?_
      refine x_iload_n (q := 134) dX9_nodeLines_133 rfl rfl ?_
      refine xn_if_eq (q := 137) 152 dX9_nodeLines_134 (by decide) rfl (by omega) (fun hc134 => absurd hc134 (by decide)) (fun hc134 => ?_)
      refine x_aload_n (q := 138) dX9_nodeLines_137 rfl rfl ?_
      refine m_get (q := 141) hM 6 fwX9_19 (by decide) dX9_nodeLines_138 rfl rfl ?_
      refine xn_iconst (q := 142) 2 dX9_nodeLines_141 rfl (by decide) ?_
      refine x_iload_n (q := 143) dX9_nodeLines_142 rfl rfl ?_
      refine xn_imul (q := 144) dX9_nodeLines_143 rfl ?_
      refine m_zald (q := 145) hM (n := 6) (by decide) dX9_nodeLines_144 rfl (by omega) ?_
      rw [(oc2).2.1, hHr hR0, hg]
      refine x_if_ne (q := 148) 152 dX9_nodeLines_145 (by decide) rfl (fun hc145 => absurd hc145 (by decide)) (fun hc145 => ?_)
      refine xn_iconst (q := 149) 1 dX9_nodeLines_148 rfl (by decide) ?_
      refine x_goto 153 dX9_nodeLines_149 (by decide) ?_
      refine x_istore (q := 155) (ls' := [(0, _), (1, _), (2, _), (3, _), (4, _), (5, _)]) [1, 2, 3, 4, 5, 0] dX9_nodeLines_153 rfl (by decide) rfl ?_
      refine x_aload_n (q := 156) dX9_nodeLines_155 rfl rfl ?_
      refine m_get (q := 159) hM 8 fwX9_26 (by decide) dX9_nodeLines_156 rfl rfl ?_
      refine x_iload_n (q := 160) dX9_nodeLines_159 rfl rfl ?_
      refine m_zald (q := 161) hM (n := 4) (by decide) dX9_nodeLines_160 rfl (by omega) ?_
      rw [(oc2).2.1, hTn, hU]
      refine x_if_eq (q := 164) 181 dX9_nodeLines_161 (by decide) rfl (fun hc161 => ?_) (fun hc161 => absurd (by decide) hc161)
      refine x_aload_n (q := 182) dX9_nodeLines_181 rfl rfl ?_
      refine m_get (q := 185) hM 8 fwX9_26 (by decide) dX9_nodeLines_182 rfl rfl ?_
      refine x_iload_n (q := 186) dX9_nodeLines_185 rfl rfl ?_
      refine m_zald (q := 187) hM (n := 4) (by decide) dX9_nodeLines_186 rfl (by omega) ?_
      rw [(oc2).2.1, hTn, hU]
      refine x_if_eq (q := 190) 209 dX9_nodeLines_187 (by decide) rfl (fun hc187 => ?_) (fun hc187 => absurd (by decide) hc187)
      refine x_aload_n (q := 210) dX9_nodeLines_209 rfl rfl ?_
      refine m_get (q := 213) hM 8 fwX9_26 (by decide) dX9_nodeLines_210 rfl rfl ?_
      refine x_iload_n (q := 214) dX9_nodeLines_213 rfl rfl ?_
      refine m_zald (q := 215) hM (n := 4) (by decide) dX9_nodeLines_214 rfl (by omega) ?_
      rw [(oc2).2.1, hTn, hU]
      refine x_if_ne (q := 218) 246 dX9_nodeLines_215 (by decide) rfl (fun hc215 => absurd hc215 (by decide)) (fun hc215 => ?_)
      refine x_iload (q := 220) dX9_nodeLines_218 rfl rfl ?_
      refine xn_if_eq (q := 223) 246 dX9_nodeLines_220 (by decide) rfl (by omega) (fun hc220 => absurd hc220 (by decide)) (fun hc220 => ?_)
      refine x_iload (q := 225) dX9_nodeLines_223 rfl rfl ?_
      refine xn_if_eq (q := 228) 246 dX9_nodeLines_225 (by decide) rfl (by omega) (fun hc225 => absurd hc225 (by decide)) (fun hc225 => ?_)
      refine x_aload_n (q := 229) dX9_nodeLines_228 rfl rfl ?_
      refine x_iload_n (q := 230) dX9_nodeLines_229 rfl rfl ?_
      refine xn_iconst (q := 231) 1 dX9_nodeLines_230 rfl (by decide) ?_
      refine xn_iadd (q := 232) dX9_nodeLines_231 rfl ?_
      refine xn_lconst (q := 233) 1 dX9_nodeLines_232 rfl (by decide) ?_
      refine xn_iconst (q := 234) 2 dX9_nodeLines_233 rfl (by decide) ?_
      refine x_iload_n (q := 235) dX9_nodeLines_234 rfl rfl ?_
      refine xn_imul (q := 236) dX9_nodeLines_235 rfl ?_
      refine xn_iconst (q := 237) 1 dX9_nodeLines_236 rfl (by decide) ?_
      refine xn_iadd (q := 238) dX9_nodeLines_237 rfl ?_
      refine x_ldc2 (q := 241) (-1) dX9_nodeLines_238 rfl cwX9_176 ?_
      refine x_topl (y := iL (-1)) (by decide) ?_
      refine xn_iconst (q := 242) 0 dX9_nodeLines_241 rfl (by decide) ?_
      refine xn_lconst (q := 243) 0 dX9_nodeLines_242 rfl (by decide) ?_
      refine m_call (q := 246) (As := [_, _, _, _, _, _]) hM imX9_line ivX9_line ilX9_line mwX9_234 xciX9 dX9_nodeLines_243 rfl rfl rfl (Nat.le_of_ble_eq_true rfl) ?_
      refine (c_line G l o as M0 N S d σc2 (2 * node - 2 + 1) (2 * node + 1) (0) _ _ _ (1) (-1) (0) (lN_i' _) rfl (lN_i' _) (by omega) (by omega) (by omega) (n + 1 + 1) (by omega) _ lc2).mono (fun x σc3 hp => ?_)
      obtain ⟨rfl, qc3, lc3⟩ := hp
      intro M hM
      have oc3 : onlyL σ σc3 := (oc2).trans qc3
      show xX G l _ (d + 1) _ _ _ [] M N S
      refine x_vret rfl dX9_nodeLines_246 (m_ret hM ⟨rfl, oc3, ?_⟩)
      simp only [nlP, h0, hR0, hB, hl, hg, hU, decide_true, decide_false, Bool.not_true, Bool.not_false, Bool.and_true, Bool.true_and, Bool.and_false, Bool.false_and, Bool.and_self, if_true, if_false, reduceIte, Bool.false_eq_true]
      exact lc3
    · refine x_iload_n (q := 1) dX9_nodeLines_0 rfl rfl ?_
      refine x_aload_n (q := 2) dX9_nodeLines_1 rfl rfl ?_
      refine m_get (q := 5) hM 3 fwX9_93 (by decide) dX9_nodeLines_2 rfl rfl ?_
      rw [(onlyL.rfl').1 3 (by decide), hm]
      refine xn_icmp_ge (q := 8) 12 dX9_nodeLines_5 (by decide) rfl (by omega) (by omega) (fun hc5 => absurd hc5 (by omega)) (fun hc5 => ?_)
      refine xn_iconst (q := 9) 1 dX9_nodeLines_8 rfl (by decide) ?_
      refine x_goto 13 dX9_nodeLines_9 (by decide) ?_
      refine x_istore_n (q := 14) (ls' := [(0, _), (1, _), (2, _)]) [1, 2, 0] dX9_nodeLines_13 rfl (by decide) rfl ?_
      refine xn_iconst (q := 15) 2 dX9_nodeLines_14 rfl (by decide) ?_
      refine x_iload_n (q := 16) dX9_nodeLines_15 rfl rfl ?_
      refine xn_imul (q := 17) dX9_nodeLines_16 rfl ?_
      refine xn_iconst (q := 18) 2 dX9_nodeLines_17 rfl (by decide) ?_
      refine xn_isub (q := 19) dX9_nodeLines_18 rfl (by omega) ?_
      refine x_istore_n (q := 20) (ls' := [(0, _), (1, _), (2, _), (3, _)]) [1, 2, 3, 0] dX9_nodeLines_19 rfl (by decide) rfl ?_
      refine x_iload_n (q := 21) dX9_nodeLines_20 rfl rfl ?_
      refine xn_if_le (q := 24) 52 dX9_nodeLines_21 (by decide) rfl (by omega) (fun hc21 => absurd hc21 (by omega)) (fun hc21 => ?_)
      refine x_iload_n (q := 25) dX9_nodeLines_24 rfl rfl ?_
      refine xn_if_eq (q := 28) 52 dX9_nodeLines_25 (by decide) rfl (by omega) (fun hc25 => absurd hc25 (by decide)) (fun hc25 => ?_)
      refine x_aload_n (q := 29) dX9_nodeLines_28 rfl rfl ?_
      refine x_iload_n (q := 30) dX9_nodeLines_29 rfl rfl ?_
      refine xn_lconst (q := 31) 1 dX9_nodeLines_30 rfl (by decide) ?_
      refine x_iload_n (q := 32) dX9_nodeLines_31 rfl rfl ?_
      refine xn_iconst (q := 33) 1 dX9_nodeLines_32 rfl (by decide) ?_
      refine xn_iadd (q := 34) dX9_nodeLines_33 rfl ?_
      refine x_aload_n (q := 35) dX9_nodeLines_34 rfl rfl ?_
      refine m_get (q := 38) hM 4 fwX9_13 (by decide) dX9_nodeLines_35 rfl rfl ?_
      refine x_iload_n (q := 39) dX9_nodeLines_38 rfl rfl ?_
      refine xn_iconst (q := 40) 1 dX9_nodeLines_39 rfl (by decide) ?_
      refine xn_isub (q := 41) dX9_nodeLines_40 rfl (by omega) ?_
      refine m_iald (q := 42) hM (n := 3) (by decide) dX9_nodeLines_41 rfl (by omega) ?_
      rw [(onlyL.rfl').2.1, hL1]
      refine xn_i2l (q := 43) dX9_nodeLines_42 rfl (by omega) ?_
      refine xn_iconst (q := 44) 2 dX9_nodeLines_43 rfl (by decide) ?_
      refine x_iload_n (q := 45) dX9_nodeLines_44 rfl rfl ?_
      refine xn_imul (q := 46) dX9_nodeLines_45 rfl ?_
      refine x_ldc2 (q := 49) (-1) dX9_nodeLines_46 rfl cwX9_176 ?_
      refine x_topl (y := iL (-1)) (by decide) ?_
      refine m_call (q := 52) (As := [_, _, _, _, _, _]) hM imX9_line ivX9_line ilX9_line mwX9_234 xciX9 dX9_nodeLines_49 rfl rfl rfl (Nat.le_of_ble_eq_true rfl) ?_
      refine (c_line G l o as M0 N S d σ (2 * node - 2) (2 * node - 2 + 1) (2 * node) _ _ _ (1) (c.L (node - 1)) (-1) (lN_i' _) (lN_i' _) rfl (by omega) (by omega) (by omega) (n) (by omega) _ hR).mono (fun x σc1 hp => ?_)
      obtain ⟨rfl, qc1, lc1⟩ := hp
      intro M hM
      have oc1 : onlyL σ σc1 := (onlyL.rfl').trans qc1
      show xX G l _ (d + 1) _ _ _ [] M N S
      refine x_aload_n (q := 53) dX9_nodeLines_52 rfl rfl ?_
      refine m_get (q := 56) hM 7 fwX9_23 (by decide) dX9_nodeLines_53 rfl rfl ?_
      refine x_iload_n (q := 57) dX9_nodeLines_56 rfl rfl ?_
      refine m_zald (q := 58) hM (n := 4) (by decide) dX9_nodeLines_57 rfl (by omega) ?_
      rw [(oc1).2.1, hHn, hB]
      refine x_if_eq (q := 61) 109 dX9_nodeLines_58 (by decide) rfl (fun hc58 => absurd hc58 (by decide)) (fun hc58 => ?_)
      refine x_aload_n (q := 62) dX9_nodeLines_61 rfl rfl ?_
      refine x_iload_n (q := 63) dX9_nodeLines_62 rfl rfl ?_
      refine xn_if_eq (q := 66) 72 dX9_nodeLines_63 (by decide) rfl (by omega) (fun hc63 => absurd hc63 (by decide)) (fun hc63 => ?_)
      refine xn_iconst (q := 67) 2 dX9_nodeLines_66 rfl (by decide) ?_
      refine x_iload_n (q := 68) dX9_nodeLines_67 rfl rfl ?_
      refine xn_imul (q := 69) dX9_nodeLines_68 rfl ?_
      refine x_goto 73 dX9_nodeLines_69 (by decide) ?_
      refine xn_lconst (q := 74) 1 dX9_nodeLines_73 rfl (by decide) ?_
      refine x_iload_n (q := 75) dX9_nodeLines_74 rfl rfl ?_
      refine xn_if_eq (q := 78) 84 dX9_nodeLines_75 (by decide) rfl (by omega) (fun hc75 => absurd hc75 (by decide)) (fun hc75 => ?_)
      refine xn_iconst (q := 79) 2 dX9_nodeLines_78 rfl (by decide) ?_
      refine x_iload_n (q := 80) dX9_nodeLines_79 rfl rfl ?_
      refine xn_imul (q := 81) dX9_nodeLines_80 rfl ?_
      refine x_goto 87 dX9_nodeLines_81 (by decide) ?_
      refine x_iload_n (q := 88) dX9_nodeLines_87 rfl rfl ?_
      refine xn_if_eq (q := 91) 95 dX9_nodeLines_88 (by decide) rfl (by omega) (fun hc88 => absurd hc88 (by decide)) (fun hc88 => ?_)
      refine xn_lconst (q := 92) 0 dX9_nodeLines_91 rfl (by decide) ?_
      refine x_goto 104 dX9_nodeLines_92 (by decide) ?_
      refine xn_iconst (q := 105) 0 dX9_nodeLines_104 rfl (by decide) ?_
      refine xn_lconst (q := 106) 0 dX9_nodeLines_105 rfl (by decide) ?_
      refine m_call (q := 109) (As := [_, _, _, _, _, _]) hM imX9_line ivX9_line ilX9_line mwX9_234 xciX9 dX9_nodeLines_106 rfl rfl rfl (Nat.le_of_ble_eq_true rfl) ?_
      refine (c_line G l o as M0 N S d σc1 (2 * node) (2 * node) (0) _ _ _ (1) (0) (0) (lN_i' _) (lN_i' _) (lN_i' _) (by omega) (by omega) (by omega) (n + 1) (by omega) _ lc1).mono (fun x σc2 hp => ?_)
      obtain ⟨rfl, qc2, lc2⟩ := hp
      intro M hM
      have oc2 : onlyL σ σc2 := (oc1).trans qc2
      show xX G l _ (d + 1) _ _ _ [] M N S
      refine x_iload_n (q := 110) dX9_nodeLines_109 rfl rfl ?_
      refine xn_if_le (q := 113) 130 dX9_nodeLines_110 (by decide) rfl (by omega) (fun hc110 => absurd hc110 (by omega)) (fun hc110 => ?_)
      refine x_aload_n (q := 114) dX9_nodeLines_113 rfl rfl ?_
      refine m_get (q := 117) hM 6 fwX9_19 (by decide) dX9_nodeLines_114 rfl rfl ?_
      refine xn_iconst (q := 118) 2 dX9_nodeLines_117 rfl (by decide) ?_
      refine x_iload_n (q := 119) dX9_nodeLines_118 rfl rfl ?_
      refine xn_imul (q := 120) dX9_nodeLines_119 rfl ?_
      refine xn_iconst (q := 121) 1 dX9_nodeLines_120 rfl (by decide) ?_
      refine xn_isub (q := 122) dX9_nodeLines_121 rfl (by omega) ?_
      refine m_zald (q := 123) hM (n := 6) (by decide) dX9_nodeLines_122 rfl (by omega) ?_
      rw [(oc2).2.1, hHl, hl]
      refine x_if_ne (q := 126) 130 dX9_nodeLines_123 (by decide) rfl (fun hc123 => absurd hc123 (by decide)) (fun hc123 => ?_)
      refine xn_iconst (q := 127) 1 dX9_nodeLines_126 rfl (by decide) ?_
      refine x_goto 131 dX9_nodeLines_127 (by decide) ?_
      refine x_istore (q := 133) (ls' := [(0, _), (1, _), (2, _), (3, _), (4, _)]) [1, 2, 3, 4, 0] dX9_nodeLines_131 rfl (by decide) rfl ?_
      refine x_iload_n (q := 134) dX9_nodeLines_133 rfl rfl ?_
      refine xn_if_eq (q := 137) 152 dX9_nodeLines_134 (by decide) rfl (by omega) (fun hc134 => absurd hc134 (by decide)) (fun hc134 => ?_)
      refine x_aload_n (q := 138) dX9_nodeLines_137 rfl rfl ?_
      refine m_get (q := 141) hM 6 fwX9_19 (by decide) dX9_nodeLines_138 rfl rfl ?_
      refine xn_iconst (q := 142) 2 dX9_nodeLines_141 rfl (by decide) ?_
      refine x_iload_n (q := 143) dX9_nodeLines_142 rfl rfl ?_
      refine xn_imul (q := 144) dX9_nodeLines_143 rfl ?_
      refine m_zald (q := 145) hM (n := 6) (by decide) dX9_nodeLines_144 rfl (by omega) ?_
      rw [(oc2).2.1, hHr hR0, hg]
      refine x_if_ne (q := 148) 152 dX9_nodeLines_145 (by decide) rfl (fun hc145 => absurd hc145 (by decide)) (fun hc145 => ?_)
      refine xn_iconst (q := 149) 1 dX9_nodeLines_148 rfl (by decide) ?_
      refine x_goto 153 dX9_nodeLines_149 (by decide) ?_
      refine x_istore (q := 155) (ls' := [(0, _), (1, _), (2, _), (3, _), (4, _), (5, _)]) [1, 2, 3, 4, 5, 0] dX9_nodeLines_153 rfl (by decide) rfl ?_
      refine x_aload_n (q := 156) dX9_nodeLines_155 rfl rfl ?_
      refine m_get (q := 159) hM 8 fwX9_26 (by decide) dX9_nodeLines_156 rfl rfl ?_
      refine x_iload_n (q := 160) dX9_nodeLines_159 rfl rfl ?_
      refine m_zald (q := 161) hM (n := 4) (by decide) dX9_nodeLines_160 rfl (by omega) ?_
      rw [(oc2).2.1, hTn, hU]
      refine x_if_eq (q := 164) 181 dX9_nodeLines_161 (by decide) rfl (fun hc161 => absurd hc161 (by decide)) (fun hc161 => ?_)
      refine x_iload (q := 166) dX9_nodeLines_164 rfl rfl ?_
      refine xn_if_eq (q := 169) 181 dX9_nodeLines_166 (by decide) rfl (by omega) (fun hc166 => absurd hc166 (by decide)) (fun hc166 => ?_)
      refine x_aload_n (q := 170) dX9_nodeLines_169 rfl rfl ?_
      refine x_iload_n (q := 171) dX9_nodeLines_170 rfl rfl ?_
      refine xn_iconst (q := 172) 1 dX9_nodeLines_171 rfl (by decide) ?_
      refine xn_iadd (q := 173) dX9_nodeLines_172 rfl ?_
      refine xn_lconst (q := 174) 1 dX9_nodeLines_173 rfl (by decide) ?_
      refine xn_iconst (q := 175) 0 dX9_nodeLines_174 rfl (by decide) ?_
      refine xn_lconst (q := 176) 0 dX9_nodeLines_175 rfl (by decide) ?_
      refine xn_iconst (q := 177) 0 dX9_nodeLines_176 rfl (by decide) ?_
      refine xn_lconst (q := 178) 0 dX9_nodeLines_177 rfl (by decide) ?_
      refine m_call (q := 181) (As := [_, _, _, _, _, _]) hM imX9_line ivX9_line ilX9_line mwX9_234 xciX9 dX9_nodeLines_178 rfl rfl rfl (Nat.le_of_ble_eq_true rfl) ?_
      refine (c_line G l o as M0 N S d σc2 (2 * node - 2 + 1) (0) (0) _ _ _ (1) (0) (0) (lN_i' _) (lN_i' _) (lN_i' _) (by omega) (by omega) (by omega) (n + 1 + 1) (by omega) _ lc2).mono (fun x σc3 hp => ?_)
      obtain ⟨rfl, qc3, lc3⟩ := hp
      intro M hM
      have oc3 : onlyL σ σc3 := (oc2).trans qc3
      show xX G l _ (d + 1) _ _ _ [] M N S
      refine x_aload_n (q := 182) dX9_nodeLines_181 rfl rfl ?_
      refine m_get (q := 185) hM 8 fwX9_26 (by decide) dX9_nodeLines_182 rfl rfl ?_
      refine x_iload_n (q := 186) dX9_nodeLines_185 rfl rfl ?_
      refine m_zald (q := 187) hM (n := 4) (by decide) dX9_nodeLines_186 rfl (by omega) ?_
      rw [(oc3).2.1, hTn, hU]
      refine x_if_eq (q := 190) 209 dX9_nodeLines_187 (by decide) rfl (fun hc187 => absurd hc187 (by decide)) (fun hc187 => ?_)
      refine x_iload (q := 192) dX9_nodeLines_190 rfl rfl ?_
      refine xn_if_eq (q := 195) 209 dX9_nodeLines_192 (by decide) rfl (by omega) (fun hc192 => absurd hc192 (by decide)) (fun hc192 => ?_)
      refine x_aload_n (q := 196) dX9_nodeLines_195 rfl rfl ?_
      refine xn_iconst (q := 197) 2 dX9_nodeLines_196 rfl (by decide) ?_
      refine x_iload_n (q := 198) dX9_nodeLines_197 rfl rfl ?_
      refine xn_imul (q := 199) dX9_nodeLines_198 rfl ?_
      refine xn_iconst (q := 200) 1 dX9_nodeLines_199 rfl (by decide) ?_
      refine xn_iadd (q := 201) dX9_nodeLines_200 rfl ?_
      refine xn_lconst (q := 202) 1 dX9_nodeLines_201 rfl (by decide) ?_
      refine xn_iconst (q := 203) 0 dX9_nodeLines_202 rfl (by decide) ?_
      refine xn_lconst (q := 204) 0 dX9_nodeLines_203 rfl (by decide) ?_
      refine xn_iconst (q := 205) 0 dX9_nodeLines_204 rfl (by decide) ?_
      refine xn_lconst (q := 206) 0 dX9_nodeLines_205 rfl (by decide) ?_
      refine m_call (q := 209) (As := [_, _, _, _, _, _]) hM imX9_line ivX9_line ilX9_line mwX9_234 xciX9 dX9_nodeLines_206 rfl rfl rfl (Nat.le_of_ble_eq_true rfl) ?_
      refine (c_line G l o as M0 N S d σc3 (2 * node + 1) (0) (0) _ _ _ (1) (0) (0) (lN_i' _) (lN_i' _) (lN_i' _) (by omega) (by omega) (by omega) (n + 1 + 1 + 1) (by omega) _ lc3).mono (fun x σc4 hp => ?_)
      obtain ⟨rfl, qc4, lc4⟩ := hp
      intro M hM
      have oc4 : onlyL σ σc4 := (oc3).trans qc4
      show xX G l _ (d + 1) _ _ _ [] M N S
      refine x_aload_n (q := 210) dX9_nodeLines_209 rfl rfl ?_
      refine m_get (q := 213) hM 8 fwX9_26 (by decide) dX9_nodeLines_210 rfl rfl ?_
      refine x_iload_n (q := 214) dX9_nodeLines_213 rfl rfl ?_
      refine m_zald (q := 215) hM (n := 4) (by decide) dX9_nodeLines_214 rfl (by omega) ?_
      rw [(oc4).2.1, hTn, hU]
      refine x_if_ne (q := 218) 246 dX9_nodeLines_215 (by decide) rfl (fun hc215 => ?_) (fun hc215 => absurd hc215 (by decide))
      refine x_vret rfl dX9_nodeLines_246 (m_ret hM ⟨rfl, oc4, ?_⟩)
      simp only [nlP, h0, hR0, hB, hl, hg, hU, decide_true, decide_false, Bool.not_true, Bool.not_false, Bool.and_true, Bool.true_and, Bool.and_false, Bool.false_and, Bool.and_self, if_true, if_false, reduceIte, Bool.false_eq_true]
      exact lc4
    · refine x_iload_n (q := 1) dX9_nodeLines_0 rfl rfl ?_
      refine x_aload_n (q := 2) dX9_nodeLines_1 rfl rfl ?_
      refine m_get (q := 5) hM 3 fwX9_93 (by decide) dX9_nodeLines_2 rfl rfl ?_
      rw [(onlyL.rfl').1 3 (by decide), hm]
      refine xn_icmp_ge (q := 8) 12 dX9_nodeLines_5 (by decide) rfl (by omega) (by omega) (fun hc5 => absurd hc5 (by omega)) (fun hc5 => ?_)
      refine xn_iconst (q := 9) 1 dX9_nodeLines_8 rfl (by decide) ?_
      refine x_goto 13 dX9_nodeLines_9 (by decide) ?_
      refine x_istore_n (q := 14) (ls' := [(0, _), (1, _), (2, _)]) [1, 2, 0] dX9_nodeLines_13 rfl (by decide) rfl ?_
      refine xn_iconst (q := 15) 2 dX9_nodeLines_14 rfl (by decide) ?_
      refine x_iload_n (q := 16) dX9_nodeLines_15 rfl rfl ?_
      refine xn_imul (q := 17) dX9_nodeLines_16 rfl ?_
      refine xn_iconst (q := 18) 2 dX9_nodeLines_17 rfl (by decide) ?_
      refine xn_isub (q := 19) dX9_nodeLines_18 rfl (by omega) ?_
      refine x_istore_n (q := 20) (ls' := [(0, _), (1, _), (2, _), (3, _)]) [1, 2, 3, 0] dX9_nodeLines_19 rfl (by decide) rfl ?_
      refine x_iload_n (q := 21) dX9_nodeLines_20 rfl rfl ?_
      refine xn_if_le (q := 24) 52 dX9_nodeLines_21 (by decide) rfl (by omega) (fun hc21 => absurd hc21 (by omega)) (fun hc21 => ?_)
      refine x_iload_n (q := 25) dX9_nodeLines_24 rfl rfl ?_
      refine xn_if_eq (q := 28) 52 dX9_nodeLines_25 (by decide) rfl (by omega) (fun hc25 => absurd hc25 (by decide)) (fun hc25 => ?_)
      refine x_aload_n (q := 29) dX9_nodeLines_28 rfl rfl ?_
      refine x_iload_n (q := 30) dX9_nodeLines_29 rfl rfl ?_
      refine xn_lconst (q := 31) 1 dX9_nodeLines_30 rfl (by decide) ?_
      refine x_iload_n (q := 32) dX9_nodeLines_31 rfl rfl ?_
      refine xn_iconst (q := 33) 1 dX9_nodeLines_32 rfl (by decide) ?_
      refine xn_iadd (q := 34) dX9_nodeLines_33 rfl ?_
      refine x_aload_n (q := 35) dX9_nodeLines_34 rfl rfl ?_
      refine m_get (q := 38) hM 4 fwX9_13 (by decide) dX9_nodeLines_35 rfl rfl ?_
      refine x_iload_n (q := 39) dX9_nodeLines_38 rfl rfl ?_
      refine xn_iconst (q := 40) 1 dX9_nodeLines_39 rfl (by decide) ?_
      refine xn_isub (q := 41) dX9_nodeLines_40 rfl (by omega) ?_
      refine m_iald (q := 42) hM (n := 3) (by decide) dX9_nodeLines_41 rfl (by omega) ?_
      rw [(onlyL.rfl').2.1, hL1]
      refine xn_i2l (q := 43) dX9_nodeLines_42 rfl (by omega) ?_
      refine xn_iconst (q := 44) 2 dX9_nodeLines_43 rfl (by decide) ?_
      refine x_iload_n (q := 45) dX9_nodeLines_44 rfl rfl ?_
      refine xn_imul (q := 46) dX9_nodeLines_45 rfl ?_
      refine x_ldc2 (q := 49) (-1) dX9_nodeLines_46 rfl cwX9_176 ?_
      refine x_topl (y := iL (-1)) (by decide) ?_
      refine m_call (q := 52) (As := [_, _, _, _, _, _]) hM imX9_line ivX9_line ilX9_line mwX9_234 xciX9 dX9_nodeLines_49 rfl rfl rfl (Nat.le_of_ble_eq_true rfl) ?_
      refine (c_line G l o as M0 N S d σ (2 * node - 2) (2 * node - 2 + 1) (2 * node) _ _ _ (1) (c.L (node - 1)) (-1) (lN_i' _) (lN_i' _) rfl (by omega) (by omega) (by omega) (n) (by omega) _ hR).mono (fun x σc1 hp => ?_)
      obtain ⟨rfl, qc1, lc1⟩ := hp
      intro M hM
      have oc1 : onlyL σ σc1 := (onlyL.rfl').trans qc1
      show xX G l _ (d + 1) _ _ _ [] M N S
      refine x_aload_n (q := 53) dX9_nodeLines_52 rfl rfl ?_
      refine m_get (q := 56) hM 7 fwX9_23 (by decide) dX9_nodeLines_53 rfl rfl ?_
      refine x_iload_n (q := 57) dX9_nodeLines_56 rfl rfl ?_
      refine m_zald (q := 58) hM (n := 4) (by decide) dX9_nodeLines_57 rfl (by omega) ?_
      rw [(oc1).2.1, hHn, hB]
      refine x_if_eq (q := 61) 109 dX9_nodeLines_58 (by decide) rfl (fun hc58 => absurd hc58 (by decide)) (fun hc58 => ?_)
      refine x_aload_n (q := 62) dX9_nodeLines_61 rfl rfl ?_
      refine x_iload_n (q := 63) dX9_nodeLines_62 rfl rfl ?_
      refine xn_if_eq (q := 66) 72 dX9_nodeLines_63 (by decide) rfl (by omega) (fun hc63 => absurd hc63 (by decide)) (fun hc63 => ?_)
      refine xn_iconst (q := 67) 2 dX9_nodeLines_66 rfl (by decide) ?_
      refine x_iload_n (q := 68) dX9_nodeLines_67 rfl rfl ?_
      refine xn_imul (q := 69) dX9_nodeLines_68 rfl ?_
      refine x_goto 73 dX9_nodeLines_69 (by decide) ?_
      refine xn_lconst (q := 74) 1 dX9_nodeLines_73 rfl (by decide) ?_
      refine x_iload_n (q := 75) dX9_nodeLines_74 rfl rfl ?_
      refine xn_if_eq (q := 78) 84 dX9_nodeLines_75 (by decide) rfl (by omega) (fun hc75 => absurd hc75 (by decide)) (fun hc75 => ?_)
      refine xn_iconst (q := 79) 2 dX9_nodeLines_78 rfl (by decide) ?_
      refine x_iload_n (q := 80) dX9_nodeLines_79 rfl rfl ?_
      refine xn_imul (q := 81) dX9_nodeLines_80 rfl ?_
      refine x_goto 87 dX9_nodeLines_81 (by decide) ?_
      refine x_iload_n (q := 88) dX9_nodeLines_87 rfl rfl ?_
      refine xn_if_eq (q := 91) 95 dX9_nodeLines_88 (by decide) rfl (by omega) (fun hc88 => absurd hc88 (by decide)) (fun hc88 => ?_)
      refine xn_lconst (q := 92) 0 dX9_nodeLines_91 rfl (by decide) ?_
      refine x_goto 104 dX9_nodeLines_92 (by decide) ?_
      refine xn_iconst (q := 105) 0 dX9_nodeLines_104 rfl (by decide) ?_
      refine xn_lconst (q := 106) 0 dX9_nodeLines_105 rfl (by decide) ?_
      refine m_call (q := 109) (As := [_, _, _, _, _, _]) hM imX9_line ivX9_line ilX9_line mwX9_234 xciX9 dX9_nodeLines_106 rfl rfl rfl (Nat.le_of_ble_eq_true rfl) ?_
      refine (c_line G l o as M0 N S d σc1 (2 * node) (2 * node) (0) _ _ _ (1) (0) (0) (lN_i' _) (lN_i' _) (lN_i' _) (by omega) (by omega) (by omega) (n + 1) (by omega) _ lc1).mono (fun x σc2 hp => ?_)
      obtain ⟨rfl, qc2, lc2⟩ := hp
      intro M hM
      have oc2 : onlyL σ σc2 := (oc1).trans qc2
      show xX G l _ (d + 1) _ _ _ [] M N S
      refine x_iload_n (q := 110) dX9_nodeLines_109 rfl rfl ?_
      refine xn_if_le (q := 113) 130 dX9_nodeLines_110 (by decide) rfl (by omega) (fun hc110 => absurd hc110 (by omega)) (fun hc110 => ?_)
      refine x_aload_n (q := 114) dX9_nodeLines_113 rfl rfl ?_
      refine m_get (q := 117) hM 6 fwX9_19 (by decide) dX9_nodeLines_114 rfl rfl ?_
      refine xn_iconst (q := 118) 2 dX9_nodeLines_117 rfl (by decide) ?_
      refine x_iload_n (q := 119) dX9_nodeLines_118 rfl rfl ?_
      refine xn_imul (q := 120) dX9_nodeLines_119 rfl ?_
      refine xn_iconst (q := 121) 1 dX9_nodeLines_120 rfl (by decide) ?_
      refine xn_isub (q := 122) dX9_nodeLines_121 rfl (by omega) ?_
      refine m_zald (q := 123) hM (n := 6) (by decide) dX9_nodeLines_122 rfl (by omega) ?_
      rw [(oc2).2.1, hHl, hl]
      refine x_if_ne (q := 126) 130 dX9_nodeLines_123 (by decide) rfl (fun hc123 => absurd hc123 (by decide)) (fun hc123 => ?_)
      refine xn_iconst (q := 127) 1 dX9_nodeLines_126 rfl (by decide) ?_
      refine x_goto 131 dX9_nodeLines_127 (by decide) ?_
      refine x_istore (q := 133) (ls' := [(0, _), (1, _), (2, _), (3, _), (4, _)]) [1, 2, 3, 4, 0] dX9_nodeLines_131 rfl (by decide) rfl ?_
      refine x_iload_n (q := 134) dX9_nodeLines_133 rfl rfl ?_
      refine xn_if_eq (q := 137) 152 dX9_nodeLines_134 (by decide) rfl (by omega) (fun hc134 => absurd hc134 (by decide)) (fun hc134 => ?_)
      refine x_aload_n (q := 138) dX9_nodeLines_137 rfl rfl ?_
      refine m_get (q := 141) hM 6 fwX9_19 (by decide) dX9_nodeLines_138 rfl rfl ?_
      refine xn_iconst (q := 142) 2 dX9_nodeLines_141 rfl (by decide) ?_
      refine x_iload_n (q := 143) dX9_nodeLines_142 rfl rfl ?_
      refine xn_imul (q := 144) dX9_nodeLines_143 rfl ?_
      refine m_zald (q := 145) hM (n := 6) (by decide) dX9_nodeLines_144 rfl (by omega) ?_
      rw [(oc2).2.1, hHr hR0, hg]
      refine x_if_ne (q := 148) 152 dX9_nodeLines_145 (by decide) rfl (fun hc145 => ?_) (fun hc145 => absurd hc145 (by decide))
      refine xn_iconst (q := 153) 0 dX9_nodeLines_152 rfl (by decide) ?_
      refine x_istore (q := 155) (ls' := [(0, _), (1, _), (2, _), (3, _), (4, _), (5, _)]) [1, 2, 3, 4, 5, 0] dX9_nodeLines_153 rfl (by decide) rfl ?_
      refine x_aload_n (q := 156) dX9_nodeLines_155 rfl rfl ?_
      refine m_get (q := 159) hM 8 fwX9_26 (by decide) dX9_nodeLines_156 rfl rfl ?_
      refine x_iload_n (q := 160) dX9_nodeLines_159 rfl rfl ?_
      refine m_zald (q := 161) hM (n := 4) (by decide) dX9_nodeLines_160 rfl (by omega) ?_
      rw [(oc2).2.1, hTn, hU]
      refine x_if_eq (q := 164) 181 dX9_nodeLines_161 (by decide) rfl (fun hc161 => ?_) (fun hc161 => absurd (by decide) hc161)
      refine x_aload_n (q := 182) dX9_nodeLines_181 rfl rfl ?_
      refine m_get (q := 185) hM 8 fwX9_26 (by decide) dX9_nodeLines_182 rfl rfl ?_
      refine x_iload_n (q := 186) dX9_nodeLines_185 rfl rfl ?_
      refine m_zald (q := 187) hM (n := 4) (by decide) dX9_nodeLines_186 rfl (by omega) ?_
      rw [(oc2).2.1, hTn, hU]
      refine x_if_eq (q := 190) 209 dX9_nodeLines_187 (by decide) rfl (fun hc187 => ?_) (fun hc187 => absurd (by decide) hc187)
      refine x_aload_n (q := 210) dX9_nodeLines_209 rfl rfl ?_
      refine m_get (q := 213) hM 8 fwX9_26 (by decide) dX9_nodeLines_210 rfl rfl ?_
      refine x_iload_n (q := 214) dX9_nodeLines_213 rfl rfl ?_
      refine m_zald (q := 215) hM (n := 4) (by decide) dX9_nodeLines_214 rfl (by omega) ?_
      rw [(oc2).2.1, hTn, hU]
      refine x_if_ne (q := 218) 246 dX9_nodeLines_215 (by decide) rfl (fun hc215 => absurd hc215 (by decide)) (fun hc215 => ?_)
      refine x_iload (q := 220) dX9_nodeLines_218 rfl rfl ?_
      refine xn_if_eq (q := 223) 246 dX9_nodeLines_220 (by decide) rfl (by omega) (fun hc220 => absurd hc220 (by decide)) (fun hc220 => ?_)
      refine x_iload (q := 225) dX9_nodeLines_223 rfl rfl ?_
      refine xn_if_eq (q := 228) 246 dX9_nodeLines_225 (by decide) rfl (by omega) (fun hc225 => ?_) (fun hc225 => absurd hc225 (by decide))
      refine x_vret rfl dX9_nodeLines_246 (m_ret hM ⟨rfl, oc2, ?_⟩)
      simp only [nlP, h0, hR0, hB, hl, hg, hU, decide_true, decide_false, Bool.not_true, Bool.not_false, Bool.and_true, Bool.true_and, Bool.and_false, Bool.false_and, Bool.and_self, if_true, if_false, reduceIte, Bool.false_eq_true]
      exact lc2
    · refine x_iload_n (q := 1) dX9_nodeLines_0 rfl rfl ?_
      refine x_aload_n (q := 2) dX9_nodeLines_1 rfl rfl ?_
      refine m_get (q := 5) hM 3 fwX9_93 (by decide) dX9_nodeLines_2 rfl rfl ?_
      rw [(onlyL.rfl').1 3 (by decide), hm]
      refine xn_icmp_ge (q := 8) 12 dX9_nodeLines_5 (by decide) rfl (by omega) (by omega) (fun hc5 => absurd hc5 (by omega)) (fun hc5 => ?_)
      refine xn_iconst (q := 9) 1 dX9_nodeLines_8 rfl (by decide) ?_
      refine x_goto 13 dX9_nodeLines_9 (by decide) ?_
      refine x_istore_n (q := 14) (ls' := [(0, _), (1, _), (2, _)]) [1, 2, 0] dX9_nodeLines_13 rfl (by decide) rfl ?_
      refine xn_iconst (q := 15) 2 dX9_nodeLines_14 rfl (by decide) ?_
      refine x_iload_n (q := 16) dX9_nodeLines_15 rfl rfl ?_
      refine xn_imul (q := 17) dX9_nodeLines_16 rfl ?_
      refine xn_iconst (q := 18) 2 dX9_nodeLines_17 rfl (by decide) ?_
      refine xn_isub (q := 19) dX9_nodeLines_18 rfl (by omega) ?_
      refine x_istore_n (q := 20) (ls' := [(0, _), (1, _), (2, _), (3, _)]) [1, 2, 3, 0] dX9_nodeLines_19 rfl (by decide) rfl ?_
      refine x_iload_n (q := 21) dX9_nodeLines_20 rfl rfl ?_
      refine xn_if_le (q := 24) 52 dX9_nodeLines_21 (by decide) rfl (by omega) (fun hc21 => absurd hc21 (by omega)) (fun hc21 => ?_)
      refine x_iload_n (q := 25) dX9_nodeLines_24 rfl rfl ?_
      refine xn_if_eq (q := 28) 52 dX9_nodeLines_25 (by decide) rfl (by omega) (fun hc25 => absurd hc25 (by decide)) (fun hc25 => ?_)
      refine x_aload_n (q := 29) dX9_nodeLines_28 rfl rfl ?_
      refine x_iload_n (q := 30) dX9_nodeLines_29 rfl rfl ?_
      refine xn_lconst (q := 31) 1 dX9_nodeLines_30 rfl (by decide) ?_
      refine x_iload_n (q := 32) dX9_nodeLines_31 rfl rfl ?_
      refine xn_iconst (q := 33) 1 dX9_nodeLines_32 rfl (by decide) ?_
      refine xn_iadd (q := 34) dX9_nodeLines_33 rfl ?_
      refine x_aload_n (q := 35) dX9_nodeLines_34 rfl rfl ?_
      refine m_get (q := 38) hM 4 fwX9_13 (by decide) dX9_nodeLines_35 rfl rfl ?_
      refine x_iload_n (q := 39) dX9_nodeLines_38 rfl rfl ?_
      refine xn_iconst (q := 40) 1 dX9_nodeLines_39 rfl (by decide) ?_
      refine xn_isub (q := 41) dX9_nodeLines_40 rfl (by omega) ?_
      refine m_iald (q := 42) hM (n := 3) (by decide) dX9_nodeLines_41 rfl (by omega) ?_
      rw [(onlyL.rfl').2.1, hL1]
      refine xn_i2l (q := 43) dX9_nodeLines_42 rfl (by omega) ?_
      refine xn_iconst (q := 44) 2 dX9_nodeLines_43 rfl (by decide) ?_
      refine x_iload_n (q := 45) dX9_nodeLines_44 rfl rfl ?_
      refine xn_imul (q := 46) dX9_nodeLines_45 rfl ?_
      refine x_ldc2 (q := 49) (-1) dX9_nodeLines_46 rfl cwX9_176 ?_
      refine x_topl (y := iL (-1)) (by decide) ?_
      refine m_call (q := 52) (As := [_, _, _, _, _, _]) hM imX9_line ivX9_line ilX9_line mwX9_234 xciX9 dX9_nodeLines_49 rfl rfl rfl (Nat.le_of_ble_eq_true rfl) ?_
      refine (c_line G l o as M0 N S d σ (2 * node - 2) (2 * node - 2 + 1) (2 * node) _ _ _ (1) (c.L (node - 1)) (-1) (lN_i' _) (lN_i' _) rfl (by omega) (by omega) (by omega) (n) (by omega) _ hR).mono (fun x σc1 hp => ?_)
      obtain ⟨rfl, qc1, lc1⟩ := hp
      intro M hM
      have oc1 : onlyL σ σc1 := (onlyL.rfl').trans qc1
      show xX G l _ (d + 1) _ _ _ [] M N S
      refine x_aload_n (q := 53) dX9_nodeLines_52 rfl rfl ?_
      refine m_get (q := 56) hM 7 fwX9_23 (by decide) dX9_nodeLines_53 rfl rfl ?_
      refine x_iload_n (q := 57) dX9_nodeLines_56 rfl rfl ?_
      refine m_zald (q := 58) hM (n := 4) (by decide) dX9_nodeLines_57 rfl (by omega) ?_
      rw [(oc1).2.1, hHn, hB]
      refine x_if_eq (q := 61) 109 dX9_nodeLines_58 (by decide) rfl (fun hc58 => absurd hc58 (by decide)) (fun hc58 => ?_)
      refine x_aload_n (q := 62) dX9_nodeLines_61 rfl rfl ?_
      refine x_iload_n (q := 63) dX9_nodeLines_62 rfl rfl ?_
      refine xn_if_eq (q := 66) 72 dX9_nodeLines_63 (by decide) rfl (by omega) (fun hc63 => absurd hc63 (by decide)) (fun hc63 => ?_)
      refine xn_iconst (q := 67) 2 dX9_nodeLines_66 rfl (by decide) ?_
      refine x_iload_n (q := 68) dX9_nodeLines_67 rfl rfl ?_
      refine xn_imul (q := 69) dX9_nodeLines_68 rfl ?_
      refine x_goto 73 dX9_nodeLines_69 (by decide) ?_
      refine xn_lconst (q := 74) 1 dX9_nodeLines_73 rfl (by decide) ?_
      refine x_iload_n (q := 75) dX9_nodeLines_74 rfl rfl ?_
      refine xn_if_eq (q := 78) 84 dX9_nodeLines_75 (by decide) rfl (by omega) (fun hc75 => absurd hc75 (by decide)) (fun hc75 => ?_)
      refine xn_iconst (q := 79) 2 dX9_nodeLines_78 rfl (by decide) ?_
      refine x_iload_n (q := 80) dX9_nodeLines_79 rfl rfl ?_
      refine xn_imul (q := 81) dX9_nodeLines_80 rfl ?_
      refine x_goto 87 dX9_nodeLines_81 (by decide) ?_
      refine x_iload_n (q := 88) dX9_nodeLines_87 rfl rfl ?_
      refine xn_if_eq (q := 91) 95 dX9_nodeLines_88 (by decide) rfl (by omega) (fun hc88 => absurd hc88 (by decide)) (fun hc88 => ?_)
      refine xn_lconst (q := 92) 0 dX9_nodeLines_91 rfl (by decide) ?_
      refine x_goto 104 dX9_nodeLines_92 (by decide) ?_
      refine xn_iconst (q := 105) 0 dX9_nodeLines_104 rfl (by decide) ?_
      refine xn_lconst (q := 106) 0 dX9_nodeLines_105 rfl (by decide) ?_
      refine m_call (q := 109) (As := [_, _, _, _, _, _]) hM imX9_line ivX9_line ilX9_line mwX9_234 xciX9 dX9_nodeLines_106 rfl rfl rfl (Nat.le_of_ble_eq_true rfl) ?_
      refine (c_line G l o as M0 N S d σc1 (2 * node) (2 * node) (0) _ _ _ (1) (0) (0) (lN_i' _) (lN_i' _) (lN_i' _) (by omega) (by omega) (by omega) (n + 1) (by omega) _ lc1).mono (fun x σc2 hp => ?_)
      obtain ⟨rfl, qc2, lc2⟩ := hp
      intro M hM
      have oc2 : onlyL σ σc2 := (oc1).trans qc2
      show xX G l _ (d + 1) _ _ _ [] M N S
      refine x_iload_n (q := 110) dX9_nodeLines_109 rfl rfl ?_
      refine xn_if_le (q := 113) 130 dX9_nodeLines_110 (by decide) rfl (by omega) (fun hc110 => absurd hc110 (by omega)) (fun hc110 => ?_)
      refine x_aload_n (q := 114) dX9_nodeLines_113 rfl rfl ?_
      refine m_get (q := 117) hM 6 fwX9_19 (by decide) dX9_nodeLines_114 rfl rfl ?_
      refine xn_iconst (q := 118) 2 dX9_nodeLines_117 rfl (by decide) ?_
      refine x_iload_n (q := 119) dX9_nodeLines_118 rfl rfl ?_
      refine xn_imul (q := 120) dX9_nodeLines_119 rfl ?_
      refine xn_iconst (q := 121) 1 dX9_nodeLines_120 rfl (by decide) ?_
      refine xn_isub (q := 122) dX9_nodeLines_121 rfl (by omega) ?_
      refine m_zald (q := 123) hM (n := 6) (by decide) dX9_nodeLines_122 rfl (by omega) ?_
      rw [(oc2).2.1, hHl, hl]
      refine x_if_ne (q := 126) 130 dX9_nodeLines_123 (by decide) rfl (fun hc123 => absurd hc123 (by decide)) (fun hc123 => ?_)
      refine xn_iconst (q := 127) 1 dX9_nodeLines_126 rfl (by decide) ?_
      refine x_goto 131 dX9_nodeLines_127 (by decide) ?_
      refine x_istore (q := 133) (ls' := [(0, _), (1, _), (2, _), (3, _), (4, _)]) [1, 2, 3, 4, 0] dX9_nodeLines_131 rfl (by decide) rfl ?_
      refine x_iload_n (q := 134) dX9_nodeLines_133 rfl rfl ?_
      refine xn_if_eq (q := 137) 152 dX9_nodeLines_134 (by decide) rfl (by omega) (fun hc134 => absurd hc134 (by decide)) (fun hc134 => ?_)
      refine x_aload_n (q := 138) dX9_nodeLines_137 rfl rfl ?_
      refine m_get (q := 141) hM 6 fwX9_19 (by decide) dX9_nodeLines_138 rfl rfl ?_
      refine xn_iconst (q := 142) 2 dX9_nodeLines_141 rfl (by decide) ?_
      refine x_iload_n (q := 143) dX9_nodeLines_142 rfl rfl ?_
      refine xn_imul (q := 144) dX9_nodeLines_143 rfl ?_
      refine m_zald (q := 145) hM (n := 6) (by decide) dX9_nodeLines_144 rfl (by omega) ?_
      rw [(oc2).2.1, hHr hR0, hg]
      refine x_if_ne (q := 148) 152 dX9_nodeLines_145 (by decide) rfl (fun hc145 => ?_) (fun hc145 => absurd hc145 (by decide))
      refine xn_iconst (q := 153) 0 dX9_nodeLines_152 rfl (by decide) ?_
      refine x_istore (q := 155) (ls' := [(0, _), (1, _), (2, _), (3, _), (4, _), (5, _)]) [1, 2, 3, 4, 5, 0] dX9_nodeLines_153 rfl (by decide) rfl ?_
      refine x_aload_n (q := 156) dX9_nodeLines_155 rfl rfl ?_
      refine m_get (q := 159) hM 8 fwX9_26 (by decide) dX9_nodeLines_156 rfl rfl ?_
      refine x_iload_n (q := 160) dX9_nodeLines_159 rfl rfl ?_
      refine m_zald (q := 161) hM (n := 4) (by decide) dX9_nodeLines_160 rfl (by omega) ?_
      rw [(oc2).2.1, hTn, hU]
      refine x_if_eq (q := 164) 181 dX9_nodeLines_161 (by decide) rfl (fun hc161 => absurd hc161 (by decide)) (fun hc161 => ?_)
      refine x_iload (q := 166) dX9_nodeLines_164 rfl rfl ?_
      refine xn_if_eq (q := 169) 181 dX9_nodeLines_166 (by decide) rfl (by omega) (fun hc166 => absurd hc166 (by decide)) (fun hc166 => ?_)
      refine x_aload_n (q := 170) dX9_nodeLines_169 rfl rfl ?_
      refine x_iload_n (q := 171) dX9_nodeLines_170 rfl rfl ?_
      refine xn_iconst (q := 172) 1 dX9_nodeLines_171 rfl (by decide) ?_
      refine xn_iadd (q := 173) dX9_nodeLines_172 rfl ?_
      refine xn_lconst (q := 174) 1 dX9_nodeLines_173 rfl (by decide) ?_
      refine xn_iconst (q := 175) 0 dX9_nodeLines_174 rfl (by decide) ?_
      refine xn_lconst (q := 176) 0 dX9_nodeLines_175 rfl (by decide) ?_
      refine xn_iconst (q := 177) 0 dX9_nodeLines_176 rfl (by decide) ?_
      refine xn_lconst (q := 178) 0 dX9_nodeLines_177 rfl (by decide) ?_
      refine m_call (q := 181) (As := [_, _, _, _, _, _]) hM imX9_line ivX9_line ilX9_line mwX9_234 xciX9 dX9_nodeLines_178 rfl rfl rfl (Nat.le_of_ble_eq_true rfl) ?_
      refine (c_line G l o as M0 N S d σc2 (2 * node - 2 + 1) (0) (0) _ _ _ (1) (0) (0) (lN_i' _) (lN_i' _) (lN_i' _) (by omega) (by omega) (by omega) (n + 1 + 1) (by omega) _ lc2).mono (fun x σc3 hp => ?_)
      obtain ⟨rfl, qc3, lc3⟩ := hp
      intro M hM
      have oc3 : onlyL σ σc3 := (oc2).trans qc3
      show xX G l _ (d + 1) _ _ _ [] M N S
      refine x_aload_n (q := 182) dX9_nodeLines_181 rfl rfl ?_
      refine m_get (q := 185) hM 8 fwX9_26 (by decide) dX9_nodeLines_182 rfl rfl ?_
      refine x_iload_n (q := 186) dX9_nodeLines_185 rfl rfl ?_
      refine m_zald (q := 187) hM (n := 4) (by decide) dX9_nodeLines_186 rfl (by omega) ?_
      rw [(oc3).2.1, hTn, hU]
      refine x_if_eq (q := 190) 209 dX9_nodeLines_187 (by decide) rfl (fun hc187 => absurd hc187 (by decide)) (fun hc187 => ?_)
      refine x_iload (q := 192) dX9_nodeLines_190 rfl rfl ?_
      refine xn_if_eq (q := 195) 209 dX9_nodeLines_192 (by decide) rfl (by omega) (fun hc192 => ?_) (fun hc192 => absurd hc192 (by decide))
      refine x_aload_n (q := 210) dX9_nodeLines_209 rfl rfl ?_
      refine m_get (q := 213) hM 8 fwX9_26 (by decide) dX9_nodeLines_210 rfl rfl ?_
      refine x_iload_n (q := 214) dX9_nodeLines_213 rfl rfl ?_
      refine m_zald (q := 215) hM (n := 4) (by decide) dX9_nodeLines_214 rfl (by omega) ?_
      rw [(oc3).2.1, hTn, hU]
      refine x_if_ne (q := 218) 246 dX9_nodeLines_215 (by decide) rfl (fun hc215 => ?_) (fun hc215 => absurd hc215 (by decide))
      refine x_vret rfl dX9_nodeLines_246 (m_ret hM ⟨rfl, oc3, ?_⟩)
      simp only [nlP, h0, hR0, hB, hl, hg, hU, decide_true, decide_false, Bool.not_true, Bool.not_false, Bool.and_true, Bool.true_and, Bool.and_false, Bool.false_and, Bool.and_self, if_true, if_false, reduceIte, Bool.false_eq_true]
      exact lc3
    · refine x_iload_n (q := 1) dX9_nodeLines_0 rfl rfl ?_
      refine x_aload_n (q := 2) dX9_nodeLines_1 rfl rfl ?_
      refine m_get (q := 5) hM 3 fwX9_93 (by decide) dX9_nodeLines_2 rfl rfl ?_
      rw [(onlyL.rfl').1 3 (by decide), hm]
      refine xn_icmp_ge (q := 8) 12 dX9_nodeLines_5 (by decide) rfl (by omega) (by omega) (fun hc5 => absurd hc5 (by omega)) (fun hc5 => ?_)
      refine xn_iconst (q := 9) 1 dX9_nodeLines_8 rfl (by decide) ?_
      refine x_goto 13 dX9_nodeLines_9 (by decide) ?_
      refine x_istore_n (q := 14) (ls' := [(0, _), (1, _), (2, _)]) [1, 2, 0] dX9_nodeLines_13 rfl (by decide) rfl ?_
      refine xn_iconst (q := 15) 2 dX9_nodeLines_14 rfl (by decide) ?_
      refine x_iload_n (q := 16) dX9_nodeLines_15 rfl rfl ?_
      refine xn_imul (q := 17) dX9_nodeLines_16 rfl ?_
      refine xn_iconst (q := 18) 2 dX9_nodeLines_17 rfl (by decide) ?_
      refine xn_isub (q := 19) dX9_nodeLines_18 rfl (by omega) ?_
      refine x_istore_n (q := 20) (ls' := [(0, _), (1, _), (2, _), (3, _)]) [1, 2, 3, 0] dX9_nodeLines_19 rfl (by decide) rfl ?_
      refine x_iload_n (q := 21) dX9_nodeLines_20 rfl rfl ?_
      refine xn_if_le (q := 24) 52 dX9_nodeLines_21 (by decide) rfl (by omega) (fun hc21 => absurd hc21 (by omega)) (fun hc21 => ?_)
      refine x_iload_n (q := 25) dX9_nodeLines_24 rfl rfl ?_
      refine xn_if_eq (q := 28) 52 dX9_nodeLines_25 (by decide) rfl (by omega) (fun hc25 => absurd hc25 (by decide)) (fun hc25 => ?_)
      refine x_aload_n (q := 29) dX9_nodeLines_28 rfl rfl ?_
      refine x_iload_n (q := 30) dX9_nodeLines_29 rfl rfl ?_
      refine xn_lconst (q := 31) 1 dX9_nodeLines_30 rfl (by decide) ?_
      refine x_iload_n (q := 32) dX9_nodeLines_31 rfl rfl ?_
      refine xn_iconst (q := 33) 1 dX9_nodeLines_32 rfl (by decide) ?_
      refine xn_iadd (q := 34) dX9_nodeLines_33 rfl ?_
      refine x_aload_n (q := 35) dX9_nodeLines_34 rfl rfl ?_
      refine m_get (q := 38) hM 4 fwX9_13 (by decide) dX9_nodeLines_35 rfl rfl ?_
      refine x_iload_n (q := 39) dX9_nodeLines_38 rfl rfl ?_
      refine xn_iconst (q := 40) 1 dX9_nodeLines_39 rfl (by decide) ?_
      refine xn_isub (q := 41) dX9_nodeLines_40 rfl (by omega) ?_
      refine m_iald (q := 42) hM (n := 3) (by decide) dX9_nodeLines_41 rfl (by omega) ?_
      rw [(onlyL.rfl').2.1, hL1]
      refine xn_i2l (q := 43) dX9_nodeLines_42 rfl (by omega) ?_
      refine xn_iconst (q := 44) 2 dX9_nodeLines_43 rfl (by decide) ?_
      refine x_iload_n (q := 45) dX9_nodeLines_44 rfl rfl ?_
      refine xn_imul (q := 46) dX9_nodeLines_45 rfl ?_
      refine x_ldc2 (q := 49) (-1) dX9_nodeLines_46 rfl cwX9_176 ?_
      refine x_topl (y := iL (-1)) (by decide) ?_
      refine m_call (q := 52) (As := [_, _, _, _, _, _]) hM imX9_line ivX9_line ilX9_line mwX9_234 xciX9 dX9_nodeLines_49 rfl rfl rfl (Nat.le_of_ble_eq_true rfl) ?_
      refine (c_line G l o as M0 N S d σ (2 * node - 2) (2 * node - 2 + 1) (2 * node) _ _ _ (1) (c.L (node - 1)) (-1) (lN_i' _) (lN_i' _) rfl (by omega) (by omega) (by omega) (n) (by omega) _ hR).mono (fun x σc1 hp => ?_)
      obtain ⟨rfl, qc1, lc1⟩ := hp
      intro M hM
      have oc1 : onlyL σ σc1 := (onlyL.rfl').trans qc1
      show xX G l _ (d + 1) _ _ _ [] M N S
      refine x_aload_n (q := 53) dX9_nodeLines_52 rfl rfl ?_
      refine m_get (q := 56) hM 7 fwX9_23 (by decide) dX9_nodeLines_53 rfl rfl ?_
      refine x_iload_n (q := 57) dX9_nodeLines_56 rfl rfl ?_
      refine m_zald (q := 58) hM (n := 4) (by decide) dX9_nodeLines_57 rfl (by omega) ?_
      rw [(oc1).2.1, hHn, hB]
      refine x_if_eq (q := 61) 109 dX9_nodeLines_58 (by decide) rfl (fun hc58 => absurd hc58 (by decide)) (fun hc58 => ?_)
      refine x_aload_n (q := 62) dX9_nodeLines_61 rfl rfl ?_
      refine x_iload_n (q := 63) dX9_nodeLines_62 rfl rfl ?_
      refine xn_if_eq (q := 66) 72 dX9_nodeLines_63 (by decide) rfl (by omega) (fun hc63 => absurd hc63 (by decide)) (fun hc63 => ?_)
      refine xn_iconst (q := 67) 2 dX9_nodeLines_66 rfl (by decide) ?_
      refine x_iload_n (q := 68) dX9_nodeLines_67 rfl rfl ?_
      refine xn_imul (q := 69) dX9_nodeLines_68 rfl ?_
      refine x_goto 73 dX9_nodeLines_69 (by decide) ?_
      refine xn_lconst (q := 74) 1 dX9_nodeLines_73 rfl (by decide) ?_
      refine x_iload_n (q := 75) dX9_nodeLines_74 rfl rfl ?_
      refine xn_if_eq (q := 78) 84 dX9_nodeLines_75 (by decide) rfl (by omega) (fun hc75 => absurd hc75 (by decide)) (fun hc75 => ?_)
      refine xn_iconst (q := 79) 2 dX9_nodeLines_78 rfl (by decide) ?_
      refine x_iload_n (q := 80) dX9_nodeLines_79 rfl rfl ?_
      refine xn_imul (q := 81) dX9_nodeLines_80 rfl ?_
      refine x_goto 87 dX9_nodeLines_81 (by decide) ?_
      refine x_iload_n (q := 88) dX9_nodeLines_87 rfl rfl ?_
      refine xn_if_eq (q := 91) 95 dX9_nodeLines_88 (by decide) rfl (by omega) (fun hc88 => absurd hc88 (by decide)) (fun hc88 => ?_)
      refine xn_lconst (q := 92) 0 dX9_nodeLines_91 rfl (by decide) ?_
      refine x_goto 104 dX9_nodeLines_92 (by decide) ?_
      refine xn_iconst (q := 105) 0 dX9_nodeLines_104 rfl (by decide) ?_
      refine xn_lconst (q := 106) 0 dX9_nodeLines_105 rfl (by decide) ?_
      refine m_call (q := 109) (As := [_, _, _, _, _, _]) hM imX9_line ivX9_line ilX9_line mwX9_234 xciX9 dX9_nodeLines_106 rfl rfl rfl (Nat.le_of_ble_eq_true rfl) ?_
      refine (c_line G l o as M0 N S d σc1 (2 * node) (2 * node) (0) _ _ _ (1) (0) (0) (lN_i' _) (lN_i' _) (lN_i' _) (by omega) (by omega) (by omega) (n + 1) (by omega) _ lc1).mono (fun x σc2 hp => ?_)
      obtain ⟨rfl, qc2, lc2⟩ := hp
      intro M hM
      have oc2 : onlyL σ σc2 := (oc1).trans qc2
      show xX G l _ (d + 1) _ _ _ [] M N S
      refine x_iload_n (q := 110) dX9_nodeLines_109 rfl rfl ?_
      refine xn_if_le (q := 113) 130 dX9_nodeLines_110 (by decide) rfl (by omega) (fun hc110 => absurd hc110 (by omega)) (fun hc110 => ?_)
      refine x_aload_n (q := 114) dX9_nodeLines_113 rfl rfl ?_
      refine m_get (q := 117) hM 6 fwX9_19 (by decide) dX9_nodeLines_114 rfl rfl ?_
      refine xn_iconst (q := 118) 2 dX9_nodeLines_117 rfl (by decide) ?_
      refine x_iload_n (q := 119) dX9_nodeLines_118 rfl rfl ?_
      refine xn_imul (q := 120) dX9_nodeLines_119 rfl ?_
      refine xn_iconst (q := 121) 1 dX9_nodeLines_120 rfl (by decide) ?_
      refine xn_isub (q := 122) dX9_nodeLines_121 rfl (by omega) ?_
      refine m_zald (q := 123) hM (n := 6) (by decide) dX9_nodeLines_122 rfl (by omega) ?_
      rw [(oc2).2.1, hHl, hl]
      refine x_if_ne (q := 126) 130 dX9_nodeLines_123 (by decide) rfl (fun hc123 => ?_) (fun hc123 => absurd hc123 (by decide))
      refine xn_iconst (q := 131) 0 dX9_nodeLines_130 rfl (by decide) ?_
      refine x_istore (q := 133) (ls' := [(0, _), (1, _), (2, _), (3, _), (4, _)]) [1, 2, 3, 4, 0] dX9_nodeLines_131 rfl (by decide) rfl ?_
      refine x_iload_n (q := 134) dX9_nodeLines_133 rfl rfl ?_
      refine xn_if_eq (q := 137) 152 dX9_nodeLines_134 (by decide) rfl (by omega) (fun hc134 => absurd hc134 (by decide)) (fun hc134 => ?_)
      refine x_aload_n (q := 138) dX9_nodeLines_137 rfl rfl ?_
      refine m_get (q := 141) hM 6 fwX9_19 (by decide) dX9_nodeLines_138 rfl rfl ?_
      refine xn_iconst (q := 142) 2 dX9_nodeLines_141 rfl (by decide) ?_
      refine x_iload_n (q := 143) dX9_nodeLines_142 rfl rfl ?_
      refine xn_imul (q := 144) dX9_nodeLines_143 rfl ?_
      refine m_zald (q := 145) hM (n := 6) (by decide) dX9_nodeLines_144 rfl (by omega) ?_
      rw [(oc2).2.1, hHr hR0, hg]
      refine x_if_ne (q := 148) 152 dX9_nodeLines_145 (by decide) rfl (fun hc145 => absurd hc145 (by decide)) (fun hc145 => ?_)
      refine xn_iconst (q := 149) 1 dX9_nodeLines_148 rfl (by decide) ?_
      refine x_goto 153 dX9_nodeLines_149 (by decide) ?_
      refine x_istore (q := 155) (ls' := [(0, _), (1, _), (2, _), (3, _), (4, _), (5, _)]) [1, 2, 3, 4, 5, 0] dX9_nodeLines_153 rfl (by decide) rfl ?_
      refine x_aload_n (q := 156) dX9_nodeLines_155 rfl rfl ?_
      refine m_get (q := 159) hM 8 fwX9_26 (by decide) dX9_nodeLines_156 rfl rfl ?_
      refine x_iload_n (q := 160) dX9_nodeLines_159 rfl rfl ?_
      refine m_zald (q := 161) hM (n := 4) (by decide) dX9_nodeLines_160 rfl (by omega) ?_
      rw [(oc2).2.1, hTn, hU]
      refine x_if_eq (q := 164) 181 dX9_nodeLines_161 (by decide) rfl (fun hc161 => ?_) (fun hc161 => absurd (by decide) hc161)
      refine x_aload_n (q := 182) dX9_nodeLines_181 rfl rfl ?_
      refine m_get (q := 185) hM 8 fwX9_26 (by decide) dX9_nodeLines_182 rfl rfl ?_
      refine x_iload_n (q := 186) dX9_nodeLines_185 rfl rfl ?_
      refine m_zald (q := 187) hM (n := 4) (by decide) dX9_nodeLines_186 rfl (by omega) ?_
      rw [(oc2).2.1, hTn, hU]
      refine x_if_eq (q := 190) 209 dX9_nodeLines_187 (by decide) rfl (fun hc187 => ?_) (fun hc187 => absurd (by decide) hc187)
      refine x_aload_n (q := 210) dX9_nodeLines_209 rfl rfl ?_
      refine m_get (q := 213) hM 8 fwX9_26 (by decide) dX9_nodeLines_210 rfl rfl ?_
      refine x_iload_n (q := 214) dX9_nodeLines_213 rfl rfl ?_
      refine m_zald (q := 215) hM (n := 4) (by decide) dX9_nodeLines_214 rfl (by omega) ?_
      rw [(oc2).2.1, hTn, hU]
      refine x_if_ne (q := 218) 246 dX9_nodeLines_215 (by decide) rfl (fun hc215 => absurd hc215 (by decide)) (fun hc215 => ?_)
      refine x_iload (q := 220) dX9_nodeLines_218 rfl rfl ?_
      refine xn_if_eq (q := 223) 246 dX9_nodeLines_220 (by decide) rfl (by omega) (fun hc220 => ?_) (fun hc220 => absurd hc220 (by decide))
      refine x_vret rfl dX9_nodeLines_246 (m_ret hM ⟨rfl, oc2, ?_⟩)
      simp only [nlP, h0, hR0, hB, hl, hg, hU, decide_true, decide_false, Bool.not_true, Bool.not_false, Bool.and_true, Bool.true_and, Bool.and_false, Bool.false_and, Bool.and_self, if_true, if_false, reduceIte, Bool.false_eq_true]
      exact lc2
    · refine x_iload_n (q := 1) dX9_nodeLines_0 rfl rfl ?_
      refine x_aload_n (q := 2) dX9_nodeLines_1 rfl rfl ?_
      refine m_get (q := 5) hM 3 fwX9_93 (by decide) dX9_nodeLines_2 rfl rfl ?_
      rw [(onlyL.rfl').1 3 (by decide), hm]
      refine xn_icmp_ge (q := 8) 12 dX9_nodeLines_5 (by decide) rfl (by omega) (by omega) (fun hc5 => absurd hc5 (by omega)) (fun hc5 => ?_)
      refine xn_iconst (q := 9) 1 dX9_nodeLines_8 rfl (by decide) ?_
      refine x_goto 13 dX9_nodeLines_9 (by decide) ?_
      refine x_istore_n (q := 14) (ls' := [(0, _), (1, _), (2, _)]) [1, 2, 0] dX9_nodeLines_13 rfl (by decide) rfl ?_
      refine xn_iconst (q := 15) 2 dX9_nodeLines_14 rfl (by decide) ?_
      refine x_iload_n (q := 16) dX9_nodeLines_15 rfl rfl ?_
      refine xn_imul (q := 17) dX9_nodeLines_16 rfl ?_
      refine xn_iconst (q := 18) 2 dX9_nodeLines_17 rfl (by decide) ?_
      refine xn_isub (q := 19) dX9_nodeLines_18 rfl (by omega) ?_
      refine x_istore_n (q := 20) (ls' := [(0, _), (1, _), (2, _), (3, _)]) [1, 2, 3, 0] dX9_nodeLines_19 rfl (by decide) rfl ?_
      refine x_iload_n (q := 21) dX9_nodeLines_20 rfl rfl ?_
      refine xn_if_le (q := 24) 52 dX9_nodeLines_21 (by decide) rfl (by omega) (fun hc21 => absurd hc21 (by omega)) (fun hc21 => ?_)
      refine x_iload_n (q := 25) dX9_nodeLines_24 rfl rfl ?_
      refine xn_if_eq (q := 28) 52 dX9_nodeLines_25 (by decide) rfl (by omega) (fun hc25 => absurd hc25 (by decide)) (fun hc25 => ?_)
      refine x_aload_n (q := 29) dX9_nodeLines_28 rfl rfl ?_
      refine x_iload_n (q := 30) dX9_nodeLines_29 rfl rfl ?_
      refine xn_lconst (q := 31) 1 dX9_nodeLines_30 rfl (by decide) ?_
      refine x_iload_n (q := 32) dX9_nodeLines_31 rfl rfl ?_
      refine xn_iconst (q := 33) 1 dX9_nodeLines_32 rfl (by decide) ?_
      refine xn_iadd (q := 34) dX9_nodeLines_33 rfl ?_
      refine x_aload_n (q := 35) dX9_nodeLines_34 rfl rfl ?_
      refine m_get (q := 38) hM 4 fwX9_13 (by decide) dX9_nodeLines_35 rfl rfl ?_
      refine x_iload_n (q := 39) dX9_nodeLines_38 rfl rfl ?_
      refine xn_iconst (q := 40) 1 dX9_nodeLines_39 rfl (by decide) ?_
      refine xn_isub (q := 41) dX9_nodeLines_40 rfl (by omega) ?_
      refine m_iald (q := 42) hM (n := 3) (by decide) dX9_nodeLines_41 rfl (by omega) ?_
      rw [(onlyL.rfl').2.1, hL1]
      refine xn_i2l (q := 43) dX9_nodeLines_42 rfl (by omega) ?_
      refine xn_iconst (q := 44) 2 dX9_nodeLines_43 rfl (by decide) ?_
      refine x_iload_n (q := 45) dX9_nodeLines_44 rfl rfl ?_
      refine xn_imul (q := 46) dX9_nodeLines_45 rfl ?_
      refine x_ldc2 (q := 49) (-1) dX9_nodeLines_46 rfl cwX9_176 ?_
      refine x_topl (y := iL (-1)) (by decide) ?_
      refine m_call (q := 52) (As := [_, _, _, _, _, _]) hM imX9_line ivX9_line ilX9_line mwX9_234 xciX9 dX9_nodeLines_49 rfl rfl rfl (Nat.le_of_ble_eq_true rfl) ?_
      refine (c_line G l o as M0 N S d σ (2 * node - 2) (2 * node - 2 + 1) (2 * node) _ _ _ (1) (c.L (node - 1)) (-1) (lN_i' _) (lN_i' _) rfl (by omega) (by omega) (by omega) (n) (by omega) _ hR).mono (fun x σc1 hp => ?_)
      obtain ⟨rfl, qc1, lc1⟩ := hp
      intro M hM
      have oc1 : onlyL σ σc1 := (onlyL.rfl').trans qc1
      show xX G l _ (d + 1) _ _ _ [] M N S
      refine x_aload_n (q := 53) dX9_nodeLines_52 rfl rfl ?_
      refine m_get (q := 56) hM 7 fwX9_23 (by decide) dX9_nodeLines_53 rfl rfl ?_
      refine x_iload_n (q := 57) dX9_nodeLines_56 rfl rfl ?_
      refine m_zald (q := 58) hM (n := 4) (by decide) dX9_nodeLines_57 rfl (by omega) ?_
      rw [(oc1).2.1, hHn, hB]
      refine x_if_eq (q := 61) 109 dX9_nodeLines_58 (by decide) rfl (fun hc58 => absurd hc58 (by decide)) (fun hc58 => ?_)
      refine x_aload_n (q := 62) dX9_nodeLines_61 rfl rfl ?_
      refine x_iload_n (q := 63) dX9_nodeLines_62 rfl rfl ?_
      refine xn_if_eq (q := 66) 72 dX9_nodeLines_63 (by decide) rfl (by omega) (fun hc63 => absurd hc63 (by decide)) (fun hc63 => ?_)
      refine xn_iconst (q := 67) 2 dX9_nodeLines_66 rfl (by decide) ?_
      refine x_iload_n (q := 68) dX9_nodeLines_67 rfl rfl ?_
      refine xn_imul (q := 69) dX9_nodeLines_68 rfl ?_
      refine x_goto 73 dX9_nodeLines_69 (by decide) ?_
      refine xn_lconst (q := 74) 1 dX9_nodeLines_73 rfl (by decide) ?_
      refine x_iload_n (q := 75) dX9_nodeLines_74 rfl rfl ?_
      refine xn_if_eq (q := 78) 84 dX9_nodeLines_75 (by decide) rfl (by omega) (fun hc75 => absurd hc75 (by decide)) (fun hc75 => ?_)
      refine xn_iconst (q := 79) 2 dX9_nodeLines_78 rfl (by decide) ?_
      refine x_iload_n (q := 80) dX9_nodeLines_79 rfl rfl ?_
      refine xn_imul (q := 81) dX9_nodeLines_80 rfl ?_
      refine x_goto 87 dX9_nodeLines_81 (by decide) ?_
      refine x_iload_n (q := 88) dX9_nodeLines_87 rfl rfl ?_
      refine xn_if_eq (q := 91) 95 dX9_nodeLines_88 (by decide) rfl (by omega) (fun hc88 => absurd hc88 (by decide)) (fun hc88 => ?_)
      refine xn_lconst (q := 92) 0 dX9_nodeLines_91 rfl (by decide) ?_
      refine x_goto 104 dX9_nodeLines_92 (by decide) ?_
      refine xn_iconst (q := 105) 0 dX9_nodeLines_104 rfl (by decide) ?_
      refine xn_lconst (q := 106) 0 dX9_nodeLines_105 rfl (by decide) ?_
      refine m_call (q := 109) (As := [_, _, _, _, _, _]) hM imX9_line ivX9_line ilX9_line mwX9_234 xciX9 dX9_nodeLines_106 rfl rfl rfl (Nat.le_of_ble_eq_true rfl) ?_
      refine (c_line G l o as M0 N S d σc1 (2 * node) (2 * node) (0) _ _ _ (1) (0) (0) (lN_i' _) (lN_i' _) (lN_i' _) (by omega) (by omega) (by omega) (n + 1) (by omega) _ lc1).mono (fun x σc2 hp => ?_)
      obtain ⟨rfl, qc2, lc2⟩ := hp
      intro M hM
      have oc2 : onlyL σ σc2 := (oc1).trans qc2
      show xX G l _ (d + 1) _ _ _ [] M N S
      refine x_iload_n (q := 110) dX9_nodeLines_109 rfl rfl ?_
      refine xn_if_le (q := 113) 130 dX9_nodeLines_110 (by decide) rfl (by omega) (fun hc110 => absurd hc110 (by omega)) (fun hc110 => ?_)
      refine x_aload_n (q := 114) dX9_nodeLines_113 rfl rfl ?_
      refine m_get (q := 117) hM 6 fwX9_19 (by decide) dX9_nodeLines_114 rfl rfl ?_
      refine xn_iconst (q := 118) 2 dX9_nodeLines_117 rfl (by decide) ?_
      refine x_iload_n (q := 119) dX9_nodeLines_118 rfl rfl ?_
      refine xn_imul (q := 120) dX9_nodeLines_119 rfl ?_
      refine xn_iconst (q := 121) 1 dX9_nodeLines_120 rfl (by decide) ?_
      refine xn_isub (q := 122) dX9_nodeLines_121 rfl (by omega) ?_
      refine m_zald (q := 123) hM (n := 6) (by decide) dX9_nodeLines_122 rfl (by omega) ?_
      rw [(oc2).2.1, hHl, hl]
      refine x_if_ne (q := 126) 130 dX9_nodeLines_123 (by decide) rfl (fun hc123 => ?_) (fun hc123 => absurd hc123 (by decide))
      refine xn_iconst (q := 131) 0 dX9_nodeLines_130 rfl (by decide) ?_
      refine x_istore (q := 133) (ls' := [(0, _), (1, _), (2, _), (3, _), (4, _)]) [1, 2, 3, 4, 0] dX9_nodeLines_131 rfl (by decide) rfl ?_
      refine x_iload_n (q := 134) dX9_nodeLines_133 rfl rfl ?_
      refine xn_if_eq (q := 137) 152 dX9_nodeLines_134 (by decide) rfl (by omega) (fun hc134 => absurd hc134 (by decide)) (fun hc134 => ?_)
      refine x_aload_n (q := 138) dX9_nodeLines_137 rfl rfl ?_
      refine m_get (q := 141) hM 6 fwX9_19 (by decide) dX9_nodeLines_138 rfl rfl ?_
      refine xn_iconst (q := 142) 2 dX9_nodeLines_141 rfl (by decide) ?_
      refine x_iload_n (q := 143) dX9_nodeLines_142 rfl rfl ?_
      refine xn_imul (q := 144) dX9_nodeLines_143 rfl ?_
      refine m_zald (q := 145) hM (n := 6) (by decide) dX9_nodeLines_144 rfl (by omega) ?_
      rw [(oc2).2.1, hHr hR0, hg]
      refine x_if_ne (q := 148) 152 dX9_nodeLines_145 (by decide) rfl (fun hc145 => absurd hc145 (by decide)) (fun hc145 => ?_)
      refine xn_iconst (q := 149) 1 dX9_nodeLines_148 rfl (by decide) ?_
      refine x_goto 153 dX9_nodeLines_149 (by decide) ?_
      refine x_istore (q := 155) (ls' := [(0, _), (1, _), (2, _), (3, _), (4, _), (5, _)]) [1, 2, 3, 4, 5, 0] dX9_nodeLines_153 rfl (by decide) rfl ?_
      refine x_aload_n (q := 156) dX9_nodeLines_155 rfl rfl ?_
      refine m_get (q := 159) hM 8 fwX9_26 (by decide) dX9_nodeLines_156 rfl rfl ?_
      refine x_iload_n (q := 160) dX9_nodeLines_159 rfl rfl ?_
      refine m_zald (q := 161) hM (n := 4) (by decide) dX9_nodeLines_160 rfl (by omega) ?_
      rw [(oc2).2.1, hTn, hU]
      refine x_if_eq (q := 164) 181 dX9_nodeLines_161 (by decide) rfl (fun hc161 => absurd hc161 (by decide)) (fun hc161 => ?_)
      refine x_iload (q := 166) dX9_nodeLines_164 rfl rfl ?_
      refine xn_if_eq (q := 169) 181 dX9_nodeLines_166 (by decide) rfl (by omega) (fun hc166 => ?_) (fun hc166 => absurd hc166 (by decide))
      refine x_aload_n (q := 182) dX9_nodeLines_181 rfl rfl ?_
      refine m_get (q := 185) hM 8 fwX9_26 (by decide) dX9_nodeLines_182 rfl rfl ?_
      refine x_iload_n (q := 186) dX9_nodeLines_185 rfl rfl ?_
      refine m_zald (q := 187) hM (n := 4) (by decide) dX9_nodeLines_186 rfl (by omega) ?_
      rw [(oc2).2.1, hTn, hU]
      refine x_if_eq (q := 190) 209 dX9_nodeLines_187 (by decide) rfl (fun hc187 => absurd hc187 (by decide)) (fun hc187 => ?_)
      refine x_iload (q := 192) dX9_nodeLines_190 rfl rfl ?_
      refine xn_if_eq (q := 195) 209 dX9_nodeLines_192 (by decide) rfl (by omega) (fun hc192 => absurd hc192 (by decide)) (fun hc192 => ?_)
      refine x_aload_n (q := 196) dX9_nodeLines_195 rfl rfl ?_
      refine xn_iconst (q := 197) 2 dX9_nodeLines_196 rfl (by decide) ?_
      refine x_iload_n (q := 198) dX9_nodeLines_197 rfl rfl ?_
      refine xn_imul (q := 199) dX9_nodeLines_198 rfl ?_
      refine xn_iconst (q := 200) 1 dX9_nodeLines_199 rfl (by decide) ?_
      refine xn_iadd (q := 201) dX9_nodeLines_200 rfl ?_
      refine xn_lconst (q := 202) 1 dX9_nodeLines_201 rfl (by decide) ?_
      refine xn_iconst (q := 203) 0 dX9_nodeLines_202 rfl (by decide) ?_
      refine xn_lconst (q := 204) 0 dX9_nodeLines_203 rfl (by decide) ?_
      refine xn_iconst (q := 205) 0 dX9_nodeLines_204 rfl (by decide) ?_
      refine xn_lconst (q := 206) 0 dX9_nodeLines_205 rfl (by decide) ?_
      refine m_call (q := 209) (As := [_, _, _, _, _, _]) hM imX9_line ivX9_line ilX9_line mwX9_234 xciX9 dX9_nodeLines_206 rfl rfl rfl (Nat.le_of_ble_eq_true rfl) ?_
      refine (c_line G l o as M0 N S d σc2 (2 * node + 1) (0) (0) _ _ _ (1) (0) (0) (lN_i' _) (lN_i' _) (lN_i' _) (by omega) (by omega) (by omega) (n + 1 + 1) (by omega) _ lc2).mono (fun x σc3 hp => ?_)
      obtain ⟨rfl, qc3, lc3⟩ := hp
      intro M hM
      have oc3 : onlyL σ σc3 := (oc2).trans qc3
      show xX G l _ (d + 1) _ _ _ [] M N S
      refine x_aload_n (q := 210) dX9_nodeLines_209 rfl rfl ?_
      refine m_get (q := 213) hM 8 fwX9_26 (by decide) dX9_nodeLines_210 rfl rfl ?_
      refine x_iload_n (q := 214) dX9_nodeLines_213 rfl rfl ?_
      refine m_zald (q := 215) hM (n := 4) (by decide) dX9_nodeLines_214 rfl (by omega) ?_
      rw [(oc3).2.1, hTn, hU]
      refine x_if_ne (q := 218) 246 dX9_nodeLines_215 (by decide) rfl (fun hc215 => ?_) (fun hc215 => absurd hc215 (by decide))
      refine x_vret rfl dX9_nodeLines_246 (m_ret hM ⟨rfl, oc3, ?_⟩)
      simp only [nlP, h0, hR0, hB, hl, hg, hU, decide_true, decide_false, Bool.not_true, Bool.not_false, Bool.and_true, Bool.true_and, Bool.and_false, Bool.false_and, Bool.and_self, if_true, if_false, reduceIte, Bool.false_eq_true]
      exact lc3
    · refine x_iload_n (q := 1) dX9_nodeLines_0 rfl rfl ?_
      refine x_aload_n (q := 2) dX9_nodeLines_1 rfl rfl ?_
      refine m_get (q := 5) hM 3 fwX9_93 (by decide) dX9_nodeLines_2 rfl rfl ?_
      rw [(onlyL.rfl').1 3 (by decide), hm]
      refine xn_icmp_ge (q := 8) 12 dX9_nodeLines_5 (by decide) rfl (by omega) (by omega) (fun hc5 => absurd hc5 (by omega)) (fun hc5 => ?_)
      refine xn_iconst (q := 9) 1 dX9_nodeLines_8 rfl (by decide) ?_
      refine x_goto 13 dX9_nodeLines_9 (by decide) ?_
      refine x_istore_n (q := 14) (ls' := [(0, _), (1, _), (2, _)]) [1, 2, 0] dX9_nodeLines_13 rfl (by decide) rfl ?_
      refine xn_iconst (q := 15) 2 dX9_nodeLines_14 rfl (by decide) ?_
      refine x_iload_n (q := 16) dX9_nodeLines_15 rfl rfl ?_
      refine xn_imul (q := 17) dX9_nodeLines_16 rfl ?_
      refine xn_iconst (q := 18) 2 dX9_nodeLines_17 rfl (by decide) ?_
      refine xn_isub (q := 19) dX9_nodeLines_18 rfl (by omega) ?_
      refine x_istore_n (q := 20) (ls' := [(0, _), (1, _), (2, _), (3, _)]) [1, 2, 3, 0] dX9_nodeLines_19 rfl (by decide) rfl ?_
      refine x_iload_n (q := 21) dX9_nodeLines_20 rfl rfl ?_
      refine xn_if_le (q := 24) 52 dX9_nodeLines_21 (by decide) rfl (by omega) (fun hc21 => absurd hc21 (by omega)) (fun hc21 => ?_)
      refine x_iload_n (q := 25) dX9_nodeLines_24 rfl rfl ?_
      refine xn_if_eq (q := 28) 52 dX9_nodeLines_25 (by decide) rfl (by omega) (fun hc25 => absurd hc25 (by decide)) (fun hc25 => ?_)
      refine x_aload_n (q := 29) dX9_nodeLines_28 rfl rfl ?_
      refine x_iload_n (q := 30) dX9_nodeLines_29 rfl rfl ?_
      refine xn_lconst (q := 31) 1 dX9_nodeLines_30 rfl (by decide) ?_
      refine x_iload_n (q := 32) dX9_nodeLines_31 rfl rfl ?_
      refine xn_iconst (q := 33) 1 dX9_nodeLines_32 rfl (by decide) ?_
      refine xn_iadd (q := 34) dX9_nodeLines_33 rfl ?_
      refine x_aload_n (q := 35) dX9_nodeLines_34 rfl rfl ?_
      refine m_get (q := 38) hM 4 fwX9_13 (by decide) dX9_nodeLines_35 rfl rfl ?_
      refine x_iload_n (q := 39) dX9_nodeLines_38 rfl rfl ?_
      refine xn_iconst (q := 40) 1 dX9_nodeLines_39 rfl (by decide) ?_
      refine xn_isub (q := 41) dX9_nodeLines_40 rfl (by omega) ?_
      refine m_iald (q := 42) hM (n := 3) (by decide) dX9_nodeLines_41 rfl (by omega) ?_
      rw [(onlyL.rfl').2.1, hL1]
      refine xn_i2l (q := 43) dX9_nodeLines_42 rfl (by omega) ?_
      refine xn_iconst (q := 44) 2 dX9_nodeLines_43 rfl (by decide) ?_
      refine x_iload_n (q := 45) dX9_nodeLines_44 rfl rfl ?_
      refine xn_imul (q := 46) dX9_nodeLines_45 rfl ?_
      refine x_ldc2 (q := 49) (-1) dX9_nodeLines_46 rfl cwX9_176 ?_
      refine x_topl (y := iL (-1)) (by decide) ?_
      refine m_call (q := 52) (As := [_, _, _, _, _, _]) hM imX9_line ivX9_line ilX9_line mwX9_234 xciX9 dX9_nodeLines_49 rfl rfl rfl (Nat.le_of_ble_eq_true rfl) ?_
      refine (c_line G l o as M0 N S d σ (2 * node - 2) (2 * node - 2 + 1) (2 * node) _ _ _ (1) (c.L (node - 1)) (-1) (lN_i' _) (lN_i' _) rfl (by omega) (by omega) (by omega) (n) (by omega) _ hR).mono (fun x σc1 hp => ?_)
      obtain ⟨rfl, qc1, lc1⟩ := hp
      intro M hM
      have oc1 : onlyL σ σc1 := (onlyL.rfl').trans qc1
      show xX G l _ (d + 1) _ _ _ [] M N S
      refine x_aload_n (q := 53) dX9_nodeLines_52 rfl rfl ?_
      refine m_get (q := 56) hM 7 fwX9_23 (by decide) dX9_nodeLines_53 rfl rfl ?_
      refine x_iload_n (q := 57) dX9_nodeLines_56 rfl rfl ?_
      refine m_zald (q := 58) hM (n := 4) (by decide) dX9_nodeLines_57 rfl (by omega) ?_
      rw [(oc1).2.1, hHn, hB]
      refine x_if_eq (q := 61) 109 dX9_nodeLines_58 (by decide) rfl (fun hc58 => absurd hc58 (by decide)) (fun hc58 => ?_)
      refine x_aload_n (q := 62) dX9_nodeLines_61 rfl rfl ?_
      refine x_iload_n (q := 63) dX9_nodeLines_62 rfl rfl ?_
      refine xn_if_eq (q := 66) 72 dX9_nodeLines_63 (by decide) rfl (by omega) (fun hc63 => absurd hc63 (by decide)) (fun hc63 => ?_)
      refine xn_iconst (q := 67) 2 dX9_nodeLines_66 rfl (by decide) ?_
      refine x_iload_n (q := 68) dX9_nodeLines_67 rfl rfl ?_
      refine xn_imul (q := 69) dX9_nodeLines_68 rfl ?_
      refine x_goto 73 dX9_nodeLines_69 (by decide) ?_
      refine xn_lconst (q := 74) 1 dX9_nodeLines_73 rfl (by decide) ?_
      refine x_iload_n (q := 75) dX9_nodeLines_74 rfl rfl ?_
      refine xn_if_eq (q := 78) 84 dX9_nodeLines_75 (by decide) rfl (by omega) (fun hc75 => absurd hc75 (by decide)) (fun hc75 => ?_)
      refine xn_iconst (q := 79) 2 dX9_nodeLines_78 rfl (by decide) ?_
      refine x_iload_n (q := 80) dX9_nodeLines_79 rfl rfl ?_
      refine xn_imul (q := 81) dX9_nodeLines_80 rfl ?_
      refine x_goto 87 dX9_nodeLines_81 (by decide) ?_
      refine x_iload_n (q := 88) dX9_nodeLines_87 rfl rfl ?_
      refine xn_if_eq (q := 91) 95 dX9_nodeLines_88 (by decide) rfl (by omega) (fun hc88 => absurd hc88 (by decide)) (fun hc88 => ?_)
      refine xn_lconst (q := 92) 0 dX9_nodeLines_91 rfl (by decide) ?_
      refine x_goto 104 dX9_nodeLines_92 (by decide) ?_
      refine xn_iconst (q := 105) 0 dX9_nodeLines_104 rfl (by decide) ?_
      refine xn_lconst (q := 106) 0 dX9_nodeLines_105 rfl (by decide) ?_
      refine m_call (q := 109) (As := [_, _, _, _, _, _]) hM imX9_line ivX9_line ilX9_line mwX9_234 xciX9 dX9_nodeLines_106 rfl rfl rfl (Nat.le_of_ble_eq_true rfl) ?_
      refine (c_line G l o as M0 N S d σc1 (2 * node) (2 * node) (0) _ _ _ (1) (0) (0) (lN_i' _) (lN_i' _) (lN_i' _) (by omega) (by omega) (by omega) (n + 1) (by omega) _ lc1).mono (fun x σc2 hp => ?_)
      obtain ⟨rfl, qc2, lc2⟩ := hp
      intro M hM
      have oc2 : onlyL σ σc2 := (oc1).trans qc2
      show xX G l _ (d + 1) _ _ _ [] M N S
      refine x_iload_n (q := 110) dX9_nodeLines_109 rfl rfl ?_
      refine xn_if_le (q := 113) 130 dX9_nodeLines_110 (by decide) rfl (by omega) (fun hc110 => absurd hc110 (by omega)) (fun hc110 => ?_)
      refine x_aload_n (q := 114) dX9_nodeLines_113 rfl rfl ?_
      refine m_get (q := 117) hM 6 fwX9_19 (by decide) dX9_nodeLines_114 rfl rfl ?_
      refine xn_iconst (q := 118) 2 dX9_nodeLines_117 rfl (by decide) ?_
      refine x_iload_n (q := 119) dX9_nodeLines_118 rfl rfl ?_
      refine xn_imul (q := 120) dX9_nodeLines_119 rfl ?_
      refine xn_iconst (q := 121) 1 dX9_nodeLines_120 rfl (by decide) ?_
      refine xn_isub (q := 122) dX9_nodeLines_121 rfl (by omega) ?_
      refine m_zald (q := 123) hM (n := 6) (by decide) dX9_nodeLines_122 rfl (by omega) ?_
      rw [(oc2).2.1, hHl, hl]
      refine x_if_ne (q := 126) 130 dX9_nodeLines_123 (by decide) rfl (fun hc123 => ?_) (fun hc123 => absurd hc123 (by decide))
      refine xn_iconst (q := 131) 0 dX9_nodeLines_130 rfl (by decide) ?_
      refine x_istore (q := 133) (ls' := [(0, _), (1, _), (2, _), (3, _), (4, _)]) [1, 2, 3, 4, 0] dX9_nodeLines_131 rfl (by decide) rfl ?_
      refine x_iload_n (q := 134) dX9_nodeLines_133 rfl rfl ?_
      refine xn_if_eq (q := 137) 152 dX9_nodeLines_134 (by decide) rfl (by omega) (fun hc134 => absurd hc134 (by decide)) (fun hc134 => ?_)
      refine x_aload_n (q := 138) dX9_nodeLines_137 rfl rfl ?_
      refine m_get (q := 141) hM 6 fwX9_19 (by decide) dX9_nodeLines_138 rfl rfl ?_
      refine xn_iconst (q := 142) 2 dX9_nodeLines_141 rfl (by decide) ?_
      refine x_iload_n (q := 143) dX9_nodeLines_142 rfl rfl ?_
      refine xn_imul (q := 144) dX9_nodeLines_143 rfl ?_
      refine m_zald (q := 145) hM (n := 6) (by decide) dX9_nodeLines_144 rfl (by omega) ?_
      rw [(oc2).2.1, hHr hR0, hg]
      refine x_if_ne (q := 148) 152 dX9_nodeLines_145 (by decide) rfl (fun hc145 => ?_) (fun hc145 => absurd hc145 (by decide))
      refine xn_iconst (q := 153) 0 dX9_nodeLines_152 rfl (by decide) ?_
      refine x_istore (q := 155) (ls' := [(0, _), (1, _), (2, _), (3, _), (4, _), (5, _)]) [1, 2, 3, 4, 5, 0] dX9_nodeLines_153 rfl (by decide) rfl ?_
      refine x_aload_n (q := 156) dX9_nodeLines_155 rfl rfl ?_
      refine m_get (q := 159) hM 8 fwX9_26 (by decide) dX9_nodeLines_156 rfl rfl ?_
      refine x_iload_n (q := 160) dX9_nodeLines_159 rfl rfl ?_
      refine m_zald (q := 161) hM (n := 4) (by decide) dX9_nodeLines_160 rfl (by omega) ?_
      rw [(oc2).2.1, hTn, hU]
      refine x_if_eq (q := 164) 181 dX9_nodeLines_161 (by decide) rfl (fun hc161 => ?_) (fun hc161 => absurd (by decide) hc161)
      refine x_aload_n (q := 182) dX9_nodeLines_181 rfl rfl ?_
      refine m_get (q := 185) hM 8 fwX9_26 (by decide) dX9_nodeLines_182 rfl rfl ?_
      refine x_iload_n (q := 186) dX9_nodeLines_185 rfl rfl ?_
      refine m_zald (q := 187) hM (n := 4) (by decide) dX9_nodeLines_186 rfl (by omega) ?_
      rw [(oc2).2.1, hTn, hU]
      refine x_if_eq (q := 190) 209 dX9_nodeLines_187 (by decide) rfl (fun hc187 => ?_) (fun hc187 => absurd (by decide) hc187)
      refine x_aload_n (q := 210) dX9_nodeLines_209 rfl rfl ?_
      refine m_get (q := 213) hM 8 fwX9_26 (by decide) dX9_nodeLines_210 rfl rfl ?_
      refine x_iload_n (q := 214) dX9_nodeLines_213 rfl rfl ?_
      refine m_zald (q := 215) hM (n := 4) (by decide) dX9_nodeLines_214 rfl (by omega) ?_
      rw [(oc2).2.1, hTn, hU]
      refine x_if_ne (q := 218) 246 dX9_nodeLines_215 (by decide) rfl (fun hc215 => absurd hc215 (by decide)) (fun hc215 => ?_)
      refine x_iload (q := 220) dX9_nodeLines_218 rfl rfl ?_
      refine xn_if_eq (q := 223) 246 dX9_nodeLines_220 (by decide) rfl (by omega) (fun hc220 => ?_) (fun hc220 => absurd hc220 (by decide))
      refine x_vret rfl dX9_nodeLines_246 (m_ret hM ⟨rfl, oc2, ?_⟩)
      simp only [nlP, h0, hR0, hB, hl, hg, hU, decide_true, decide_false, Bool.not_true, Bool.not_false, Bool.and_true, Bool.true_and, Bool.and_false, Bool.false_and, Bool.and_self, if_true, if_false, reduceIte, Bool.false_eq_true]
      exact lc2
    · refine x_iload_n (q := 1) dX9_nodeLines_0 rfl rfl ?_
      refine x_aload_n (q := 2) dX9_nodeLines_1 rfl rfl ?_
      refine m_get (q := 5) hM 3 fwX9_93 (by decide) dX9_nodeLines_2 rfl rfl ?_
      rw [(onlyL.rfl').1 3 (by decide), hm]
      refine xn_icmp_ge (q := 8) 12 dX9_nodeLines_5 (by decide) rfl (by omega) (by omega) (fun hc5 => absurd hc5 (by omega)) (fun hc5 => ?_)
      refine xn_iconst (q := 9) 1 dX9_nodeLines_8 rfl (by decide) ?_
      refine x_goto 13 dX9_nodeLines_9 (by decide) ?_
      refine x_istore_n (q := 14) (ls' := [(0, _), (1, _), (2, _)]) [1, 2, 0] dX9_nodeLines_13 rfl (by decide) rfl ?_
      refine xn_iconst (q := 15) 2 dX9_nodeLines_14 rfl (by decide) ?_
      refine x_iload_n (q := 16) dX9_nodeLines_15 rfl rfl ?_
      refine xn_imul (q := 17) dX9_nodeLines_16 rfl ?_
      refine xn_iconst (q := 18) 2 dX9_nodeLines_17 rfl (by decide) ?_
      refine xn_isub (q := 19) dX9_nodeLines_18 rfl (by omega) ?_
      refine x_istore_n (q := 20) (ls' := [(0, _), (1, _), (2, _), (3, _)]) [1, 2, 3, 0] dX9_nodeLines_19 rfl (by decide) rfl ?_
      refine x_iload_n (q := 21) dX9_nodeLines_20 rfl rfl ?_
      refine xn_if_le (q := 24) 52 dX9_nodeLines_21 (by decide) rfl (by omega) (fun hc21 => absurd hc21 (by omega)) (fun hc21 => ?_)
      refine x_iload_n (q := 25) dX9_nodeLines_24 rfl rfl ?_
      refine xn_if_eq (q := 28) 52 dX9_nodeLines_25 (by decide) rfl (by omega) (fun hc25 => absurd hc25 (by decide)) (fun hc25 => ?_)
      refine x_aload_n (q := 29) dX9_nodeLines_28 rfl rfl ?_
      refine x_iload_n (q := 30) dX9_nodeLines_29 rfl rfl ?_
      refine xn_lconst (q := 31) 1 dX9_nodeLines_30 rfl (by decide) ?_
      refine x_iload_n (q := 32) dX9_nodeLines_31 rfl rfl ?_
      refine xn_iconst (q := 33) 1 dX9_nodeLines_32 rfl (by decide) ?_
      refine xn_iadd (q := 34) dX9_nodeLines_33 rfl ?_
      refine x_aload_n (q := 35) dX9_nodeLines_34 rfl rfl ?_
      refine m_get (q := 38) hM 4 fwX9_13 (by decide) dX9_nodeLines_35 rfl rfl ?_
      refine x_iload_n (q := 39) dX9_nodeLines_38 rfl rfl ?_
      refine xn_iconst (q := 40) 1 dX9_nodeLines_39 rfl (by decide) ?_
      refine xn_isub (q := 41) dX9_nodeLines_40 rfl (by omega) ?_
      refine m_iald (q := 42) hM (n := 3) (by decide) dX9_nodeLines_41 rfl (by omega) ?_
      rw [(onlyL.rfl').2.1, hL1]
      refine xn_i2l (q := 43) dX9_nodeLines_42 rfl (by omega) ?_
      refine xn_iconst (q := 44) 2 dX9_nodeLines_43 rfl (by decide) ?_
      refine x_iload_n (q := 45) dX9_nodeLines_44 rfl rfl ?_
      refine xn_imul (q := 46) dX9_nodeLines_45 rfl ?_
      refine x_ldc2 (q := 49) (-1) dX9_nodeLines_46 rfl cwX9_176 ?_
      refine x_topl (y := iL (-1)) (by decide) ?_
      refine m_call (q := 52) (As := [_, _, _, _, _, _]) hM imX9_line ivX9_line ilX9_line mwX9_234 xciX9 dX9_nodeLines_49 rfl rfl rfl (Nat.le_of_ble_eq_true rfl) ?_
      refine (c_line G l o as M0 N S d σ (2 * node - 2) (2 * node - 2 + 1) (2 * node) _ _ _ (1) (c.L (node - 1)) (-1) (lN_i' _) (lN_i' _) rfl (by omega) (by omega) (by omega) (n) (by omega) _ hR).mono (fun x σc1 hp => ?_)
      obtain ⟨rfl, qc1, lc1⟩ := hp
      intro M hM
      have oc1 : onlyL σ σc1 := (onlyL.rfl').trans qc1
      show xX G l _ (d + 1) _ _ _ [] M N S
      refine x_aload_n (q := 53) dX9_nodeLines_52 rfl rfl ?_
      refine m_get (q := 56) hM 7 fwX9_23 (by decide) dX9_nodeLines_53 rfl rfl ?_
      refine x_iload_n (q := 57) dX9_nodeLines_56 rfl rfl ?_
      refine m_zald (q := 58) hM (n := 4) (by decide) dX9_nodeLines_57 rfl (by omega) ?_
      rw [(oc1).2.1, hHn, hB]
      refine x_if_eq (q := 61) 109 dX9_nodeLines_58 (by decide) rfl (fun hc58 => absurd hc58 (by decide)) (fun hc58 => ?_)
      refine x_aload_n (q := 62) dX9_nodeLines_61 rfl rfl ?_
      refine x_iload_n (q := 63) dX9_nodeLines_62 rfl rfl ?_
      refine xn_if_eq (q := 66) 72 dX9_nodeLines_63 (by decide) rfl (by omega) (fun hc63 => absurd hc63 (by decide)) (fun hc63 => ?_)
      refine xn_iconst (q := 67) 2 dX9_nodeLines_66 rfl (by decide) ?_
      refine x_iload_n (q := 68) dX9_nodeLines_67 rfl rfl ?_
      refine xn_imul (q := 69) dX9_nodeLines_68 rfl ?_
      refine x_goto 73 dX9_nodeLines_69 (by decide) ?_
      refine xn_lconst (q := 74) 1 dX9_nodeLines_73 rfl (by decide) ?_
      refine x_iload_n (q := 75) dX9_nodeLines_74 rfl rfl ?_
      refine xn_if_eq (q := 78) 84 dX9_nodeLines_75 (by decide) rfl (by omega) (fun hc75 => absurd hc75 (by decide)) (fun hc75 => ?_)
      refine xn_iconst (q := 79) 2 dX9_nodeLines_78 rfl (by decide) ?_
      refine x_iload_n (q := 80) dX9_nodeLines_79 rfl rfl ?_
      refine xn_imul (q := 81) dX9_nodeLines_80 rfl ?_
      refine x_goto 87 dX9_nodeLines_81 (by decide) ?_
      refine x_iload_n (q := 88) dX9_nodeLines_87 rfl rfl ?_
      refine xn_if_eq (q := 91) 95 dX9_nodeLines_88 (by decide) rfl (by omega) (fun hc88 => absurd hc88 (by decide)) (fun hc88 => ?_)
      refine xn_lconst (q := 92) 0 dX9_nodeLines_91 rfl (by decide) ?_
      refine x_goto 104 dX9_nodeLines_92 (by decide) ?_
      refine xn_iconst (q := 105) 0 dX9_nodeLines_104 rfl (by decide) ?_
      refine xn_lconst (q := 106) 0 dX9_nodeLines_105 rfl (by decide) ?_
      refine m_call (q := 109) (As := [_, _, _, _, _, _]) hM imX9_line ivX9_line ilX9_line mwX9_234 xciX9 dX9_nodeLines_106 rfl rfl rfl (Nat.le_of_ble_eq_true rfl) ?_
      refine (c_line G l o as M0 N S d σc1 (2 * node) (2 * node) (0) _ _ _ (1) (0) (0) (lN_i' _) (lN_i' _) (lN_i' _) (by omega) (by omega) (by omega) (n + 1) (by omega) _ lc1).mono (fun x σc2 hp => ?_)
      obtain ⟨rfl, qc2, lc2⟩ := hp
      intro M hM
      have oc2 : onlyL σ σc2 := (oc1).trans qc2
      show xX G l _ (d + 1) _ _ _ [] M N S
      refine x_iload_n (q := 110) dX9_nodeLines_109 rfl rfl ?_
      refine xn_if_le (q := 113) 130 dX9_nodeLines_110 (by decide) rfl (by omega) (fun hc110 => absurd hc110 (by omega)) (fun hc110 => ?_)
      refine x_aload_n (q := 114) dX9_nodeLines_113 rfl rfl ?_
      refine m_get (q := 117) hM 6 fwX9_19 (by decide) dX9_nodeLines_114 rfl rfl ?_
      refine xn_iconst (q := 118) 2 dX9_nodeLines_117 rfl (by decide) ?_
      refine x_iload_n (q := 119) dX9_nodeLines_118 rfl rfl ?_
      refine xn_imul (q := 120) dX9_nodeLines_119 rfl ?_
      refine xn_iconst (q := 121) 1 dX9_nodeLines_120 rfl (by decide) ?_
      refine xn_isub (q := 122) dX9_nodeLines_121 rfl (by omega) ?_
      refine m_zald (q := 123) hM (n := 6) (by decide) dX9_nodeLines_122 rfl (by omega) ?_
      rw [(oc2).2.1, hHl, hl]
      refine x_if_ne (q := 126) 130 dX9_nodeLines_123 (by decide) rfl (fun hc123 => ?_) (fun hc123 => absurd hc123 (by decide))
      refine xn_iconst (q := 131) 0 dX9_nodeLines_130 rfl (by decide) ?_
      refine x_istore (q := 133) (ls' := [(0, _), (1, _), (2, _), (3, _), (4, _)]) [1, 2, 3, 4, 0] dX9_nodeLines_131 rfl (by decide) rfl ?_
      refine x_iload_n (q := 134) dX9_nodeLines_133 rfl rfl ?_
      refine xn_if_eq (q := 137) 152 dX9_nodeLines_134 (by decide) rfl (by omega) (fun hc134 => absurd hc134 (by decide)) (fun hc134 => ?_)
      refine x_aload_n (q := 138) dX9_nodeLines_137 rfl rfl ?_
      refine m_get (q := 141) hM 6 fwX9_19 (by decide) dX9_nodeLines_138 rfl rfl ?_
      refine xn_iconst (q := 142) 2 dX9_nodeLines_141 rfl (by decide) ?_
      refine x_iload_n (q := 143) dX9_nodeLines_142 rfl rfl ?_
      refine xn_imul (q := 144) dX9_nodeLines_143 rfl ?_
      refine m_zald (q := 145) hM (n := 6) (by decide) dX9_nodeLines_144 rfl (by omega) ?_
      rw [(oc2).2.1, hHr hR0, hg]
      refine x_if_ne (q := 148) 152 dX9_nodeLines_145 (by decide) rfl (fun hc145 => ?_) (fun hc145 => absurd hc145 (by decide))
      refine xn_iconst (q := 153) 0 dX9_nodeLines_152 rfl (by decide) ?_
      refine x_istore (q := 155) (ls' := [(0, _), (1, _), (2, _), (3, _), (4, _), (5, _)]) [1, 2, 3, 4, 5, 0] dX9_nodeLines_153 rfl (by decide) rfl ?_
      refine x_aload_n (q := 156) dX9_nodeLines_155 rfl rfl ?_
      refine m_get (q := 159) hM 8 fwX9_26 (by decide) dX9_nodeLines_156 rfl rfl ?_
      refine x_iload_n (q := 160) dX9_nodeLines_159 rfl rfl ?_
      refine m_zald (q := 161) hM (n := 4) (by decide) dX9_nodeLines_160 rfl (by omega) ?_
      rw [(oc2).2.1, hTn, hU]
      refine x_if_eq (q := 164) 181 dX9_nodeLines_161 (by decide) rfl (fun hc161 => absurd hc161 (by decide)) (fun hc161 => ?_)
      refine x_iload (q := 166) dX9_nodeLines_164 rfl rfl ?_
      refine xn_if_eq (q := 169) 181 dX9_nodeLines_166 (by decide) rfl (by omega) (fun hc166 => ?_) (fun hc166 => absurd hc166 (by decide))
      refine x_aload_n (q := 182) dX9_nodeLines_181 rfl rfl ?_
      refine m_get (q := 185) hM 8 fwX9_26 (by decide) dX9_nodeLines_182 rfl rfl ?_
      refine x_iload_n (q := 186) dX9_nodeLines_185 rfl rfl ?_
      refine m_zald (q := 187) hM (n := 4) (by decide) dX9_nodeLines_186 rfl (by omega) ?_
      rw [(oc2).2.1, hTn, hU]
      refine x_if_eq (q := 190) 209 dX9_nodeLines_187 (by decide) rfl (fun hc187 => absurd hc187 (by decide)) (fun hc187 => ?_)
      refine x_iload (q := 192) dX9_nodeLines_190 rfl rfl ?_
      refine xn_if_eq (q := 195) 209 dX9_nodeLines_192 (by decide) rfl (by omega) (fun hc192 => ?_) (fun hc192 => absurd hc192 (by decide))
      refine x_aload_n (q := 210) dX9_nodeLines_209 rfl rfl ?_
      refine m_get (q := 213) hM 8 fwX9_26 (by decide) dX9_nodeLines_210 rfl rfl ?_
      refine x_iload_n (q := 214) dX9_nodeLines_213 rfl rfl ?_
      refine m_zald (q := 215) hM (n := 4) (by decide) dX9_nodeLines_214 rfl (by omega) ?_
      rw [(oc2).2.1, hTn, hU]
      refine x_if_ne (q := 218) 246 dX9_nodeLines_215 (by decide) rfl (fun hc215 => ?_) (fun hc215 => absurd hc215 (by decide))
      refine x_vret rfl dX9_nodeLines_246 (m_ret hM ⟨rfl, oc2, ?_⟩)
      simp only [nlP, h0, hR0, hB, hl, hg, hU, decide_true, decide_false, Bool.not_true, Bool.not_false, Bool.and_true, Bool.true_and, Bool.and_false, Bool.false_and, Bool.and_self, if_true, if_false, reduceIte, Bool.false_eq_true]
      exact lc2
  · cases hB : c.Hi node <;> cases hl : c.Hg (2 * node - 1) <;> cases hU : c.Tu node
    · refine x_iload_n (q := 1) dX9_nodeLines_0 rfl rfl ?_
      refine x_aload_n (q := 2) dX9_nodeLines_1 rfl rfl ?_
      refine m_get (q := 5) hM 3 fwX9_93 (by decide) dX9_nodeLines_2 rfl rfl ?_
      rw [(onlyL.rfl').1 3 (by decide), hm]
      refine xn_icmp_ge (q := 8) 12 dX9_nodeLines_5 (by decide) rfl (by omega) (by omega) (fun hc5 => ?_) (fun hc5 => absurd hc5 (by omega))
      refine xn_iconst (q := 13) 0 dX9_nodeLines_12 rfl (by decide) ?_
      refine x_istore_n (q := 14) (ls' := [(0, _), (1, _), (2, _)]) [1, 2, 0] dX9_nodeLines_13 rfl (by decide) rfl ?_
      refine xn_iconst (q := 15) 2 dX9_nodeLines_14 rfl (by decide) ?_
      refine x_iload_n (q := 16) dX9_nodeLines_15 rfl rfl ?_
      refine xn_imul (q := 17) dX9_nodeLines_16 rfl ?_
      refine xn_iconst (q := 18) 2 dX9_nodeLines_17 rfl (by decide) ?_
      refine xn_isub (q := 19) dX9_nodeLines_18 rfl (by omega) ?_
      refine x_istore_n (q := 20) (ls' := [(0, _), (1, _), (2, _), (3, _)]) [1, 2, 3, 0] dX9_nodeLines_19 rfl (by decide) rfl ?_
      refine x_iload_n (q := 21) dX9_nodeLines_20 rfl rfl ?_
      refine xn_if_le (q := 24) 52 dX9_nodeLines_21 (by decide) rfl (by omega) (fun hc21 => absurd hc21 (by omega)) (fun hc21 => ?_)
      refine x_iload_n (q := 25) dX9_nodeLines_24 rfl rfl ?_
      refine xn_if_eq (q := 28) 52 dX9_nodeLines_25 (by decide) rfl (by omega) (fun hc25 => ?_) (fun hc25 => absurd hc25 (by decide))
      refine x_aload_n (q := 53) dX9_nodeLines_52 rfl rfl ?_
      refine m_get (q := 56) hM 7 fwX9_23 (by decide) dX9_nodeLines_53 rfl rfl ?_
      refine x_iload_n (q := 57) dX9_nodeLines_56 rfl rfl ?_
      refine m_zald (q := 58) hM (n := 4) (by decide) dX9_nodeLines_57 rfl (by omega) ?_
      rw [(onlyL.rfl').2.1, hHn, hB]
      refine x_if_eq (q := 61) 109 dX9_nodeLines_58 (by decide) rfl (fun hc58 => ?_) (fun hc58 => absurd (by decide) hc58)
      refine x_iload_n (q := 110) dX9_nodeLines_109 rfl rfl ?_
      refine xn_if_le (q := 113) 130 dX9_nodeLines_110 (by decide) rfl (by omega) (fun hc110 => absurd hc110 (by omega)) (fun hc110 => ?_)
      refine x_aload_n (q := 114) dX9_nodeLines_113 rfl rfl ?_
      refine m_get (q := 117) hM 6 fwX9_19 (by decide) dX9_nodeLines_114 rfl rfl ?_
      refine xn_iconst (q := 118) 2 dX9_nodeLines_117 rfl (by decide) ?_
      refine x_iload_n (q := 119) dX9_nodeLines_118 rfl rfl ?_
      refine xn_imul (q := 120) dX9_nodeLines_119 rfl ?_
      refine xn_iconst (q := 121) 1 dX9_nodeLines_120 rfl (by decide) ?_
      refine xn_isub (q := 122) dX9_nodeLines_121 rfl (by omega) ?_
      refine m_zald (q := 123) hM (n := 6) (by decide) dX9_nodeLines_122 rfl (by omega) ?_
      rw [(onlyL.rfl').2.1, hHl, hl]
      refine x_if_ne (q := 126) 130 dX9_nodeLines_123 (by decide) rfl (fun hc123 => absurd hc123 (by decide)) (fun hc123 => ?_)
      refine xn_iconst (q := 127) 1 dX9_nodeLines_126 rfl (by decide) ?_
      refine x_goto 131 dX9_nodeLines_127 (by decide) ?_
      refine x_istore (q := 133) (ls' := [(0, _), (1, _), (2, _), (3, _), (4, _)]) [1, 2, 3, 4, 0] dX9_nodeLines_131 rfl (by decide) rfl ?_
      refine x_iload_n (q := 134) dX9_nodeLines_133 rfl rfl ?_
      refine xn_if_eq (q := 137) 152 dX9_nodeLines_134 (by decide) rfl (by omega) (fun hc134 => ?_) (fun hc134 => absurd hc134 (by decide))
      refine xn_iconst (q := 153) 0 dX9_nodeLines_152 rfl (by decide) ?_
      refine x_istore (q := 155) (ls' := [(0, _), (1, _), (2, _), (3, _), (4, _), (5, _)]) [1, 2, 3, 4, 5, 0] dX9_nodeLines_153 rfl (by decide) rfl ?_
      refine x_aload_n (q := 156) dX9_nodeLines_155 rfl rfl ?_
      refine m_get (q := 159) hM 8 fwX9_26 (by decide) dX9_nodeLines_156 rfl rfl ?_
      refine x_iload_n (q := 160) dX9_nodeLines_159 rfl rfl ?_
      refine m_zald (q := 161) hM (n := 4) (by decide) dX9_nodeLines_160 rfl (by omega) ?_
      rw [(onlyL.rfl').2.1, hTn, hU]
      refine x_if_eq (q := 164) 181 dX9_nodeLines_161 (by decide) rfl (fun hc161 => ?_) (fun hc161 => absurd (by decide) hc161)
      refine x_aload_n (q := 182) dX9_nodeLines_181 rfl rfl ?_
      refine m_get (q := 185) hM 8 fwX9_26 (by decide) dX9_nodeLines_182 rfl rfl ?_
      refine x_iload_n (q := 186) dX9_nodeLines_185 rfl rfl ?_
      refine m_zald (q := 187) hM (n := 4) (by decide) dX9_nodeLines_186 rfl (by omega) ?_
      rw [(onlyL.rfl').2.1, hTn, hU]
      refine x_if_eq (q := 190) 209 dX9_nodeLines_187 (by decide) rfl (fun hc187 => ?_) (fun hc187 => absurd (by decide) hc187)
      refine x_aload_n (q := 210) dX9_nodeLines_209 rfl rfl ?_
      refine m_get (q := 213) hM 8 fwX9_26 (by decide) dX9_nodeLines_210 rfl rfl ?_
      refine x_iload_n (q := 214) dX9_nodeLines_213 rfl rfl ?_
      refine m_zald (q := 215) hM (n := 4) (by decide) dX9_nodeLines_214 rfl (by omega) ?_
      rw [(onlyL.rfl').2.1, hTn, hU]
      refine x_if_ne (q := 218) 246 dX9_nodeLines_215 (by decide) rfl (fun hc215 => absurd hc215 (by decide)) (fun hc215 => ?_)
      refine x_iload (q := 220) dX9_nodeLines_218 rfl rfl ?_
      refine xn_if_eq (q := 223) 246 dX9_nodeLines_220 (by decide) rfl (by omega) (fun hc220 => absurd hc220 (by decide)) (fun hc220 => ?_)
      refine x_iload (q := 225) dX9_nodeLines_223 rfl rfl ?_
      refine xn_if_eq (q := 228) 246 dX9_nodeLines_225 (by decide) rfl (by omega) (fun hc225 => ?_) (fun hc225 => absurd hc225 (by decide))
      refine x_vret rfl dX9_nodeLines_246 (m_ret hM ⟨rfl, onlyL.rfl', ?_⟩)
      simp only [nlP, h0, hR0, hB, hl, hU, decide_true, decide_false, Bool.not_true, Bool.not_false, Bool.and_true, Bool.true_and, Bool.and_false, Bool.false_and, Bool.and_self, if_true, if_false, reduceIte, Bool.false_eq_true]
      exact hR
    · refine x_iload_n (q := 1) dX9_nodeLines_0 rfl rfl ?_
      refine x_aload_n (q := 2) dX9_nodeLines_1 rfl rfl ?_
      refine m_get (q := 5) hM 3 fwX9_93 (by decide) dX9_nodeLines_2 rfl rfl ?_
      rw [(onlyL.rfl').1 3 (by decide), hm]
      refine xn_icmp_ge (q := 8) 12 dX9_nodeLines_5 (by decide) rfl (by omega) (by omega) (fun hc5 => ?_) (fun hc5 => absurd hc5 (by omega))
      refine xn_iconst (q := 13) 0 dX9_nodeLines_12 rfl (by decide) ?_
      refine x_istore_n (q := 14) (ls' := [(0, _), (1, _), (2, _)]) [1, 2, 0] dX9_nodeLines_13 rfl (by decide) rfl ?_
      refine xn_iconst (q := 15) 2 dX9_nodeLines_14 rfl (by decide) ?_
      refine x_iload_n (q := 16) dX9_nodeLines_15 rfl rfl ?_
      refine xn_imul (q := 17) dX9_nodeLines_16 rfl ?_
      refine xn_iconst (q := 18) 2 dX9_nodeLines_17 rfl (by decide) ?_
      refine xn_isub (q := 19) dX9_nodeLines_18 rfl (by omega) ?_
      refine x_istore_n (q := 20) (ls' := [(0, _), (1, _), (2, _), (3, _)]) [1, 2, 3, 0] dX9_nodeLines_19 rfl (by decide) rfl ?_
      refine x_iload_n (q := 21) dX9_nodeLines_20 rfl rfl ?_
      refine xn_if_le (q := 24) 52 dX9_nodeLines_21 (by decide) rfl (by omega) (fun hc21 => absurd hc21 (by omega)) (fun hc21 => ?_)
      refine x_iload_n (q := 25) dX9_nodeLines_24 rfl rfl ?_
      refine xn_if_eq (q := 28) 52 dX9_nodeLines_25 (by decide) rfl (by omega) (fun hc25 => ?_) (fun hc25 => absurd hc25 (by decide))
      refine x_aload_n (q := 53) dX9_nodeLines_52 rfl rfl ?_
      refine m_get (q := 56) hM 7 fwX9_23 (by decide) dX9_nodeLines_53 rfl rfl ?_
      refine x_iload_n (q := 57) dX9_nodeLines_56 rfl rfl ?_
      refine m_zald (q := 58) hM (n := 4) (by decide) dX9_nodeLines_57 rfl (by omega) ?_
      rw [(onlyL.rfl').2.1, hHn, hB]
      refine x_if_eq (q := 61) 109 dX9_nodeLines_58 (by decide) rfl (fun hc58 => ?_) (fun hc58 => absurd (by decide) hc58)
      refine x_iload_n (q := 110) dX9_nodeLines_109 rfl rfl ?_
      refine xn_if_le (q := 113) 130 dX9_nodeLines_110 (by decide) rfl (by omega) (fun hc110 => absurd hc110 (by omega)) (fun hc110 => ?_)
      refine x_aload_n (q := 114) dX9_nodeLines_113 rfl rfl ?_
      refine m_get (q := 117) hM 6 fwX9_19 (by decide) dX9_nodeLines_114 rfl rfl ?_
      refine xn_iconst (q := 118) 2 dX9_nodeLines_117 rfl (by decide) ?_
      refine x_iload_n (q := 119) dX9_nodeLines_118 rfl rfl ?_
      refine xn_imul (q := 120) dX9_nodeLines_119 rfl ?_
      refine xn_iconst (q := 121) 1 dX9_nodeLines_120 rfl (by decide) ?_
      refine xn_isub (q := 122) dX9_nodeLines_121 rfl (by omega) ?_
      refine m_zald (q := 123) hM (n := 6) (by decide) dX9_nodeLines_122 rfl (by omega) ?_
      rw [(onlyL.rfl').2.1, hHl, hl]
      refine x_if_ne (q := 126) 130 dX9_nodeLines_123 (by decide) rfl (fun hc123 => absurd hc123 (by decide)) (fun hc123 => ?_)
      refine xn_iconst (q := 127) 1 dX9_nodeLines_126 rfl (by decide) ?_
      refine x_goto 131 dX9_nodeLines_127 (by decide) ?_
      refine x_istore (q := 133) (ls' := [(0, _), (1, _), (2, _), (3, _), (4, _)]) [1, 2, 3, 4, 0] dX9_nodeLines_131 rfl (by decide) rfl ?_
      refine x_iload_n (q := 134) dX9_nodeLines_133 rfl rfl ?_
      refine xn_if_eq (q := 137) 152 dX9_nodeLines_134 (by decide) rfl (by omega) (fun hc134 => ?_) (fun hc134 => absurd hc134 (by decide))
      refine xn_iconst (q := 153) 0 dX9_nodeLines_152 rfl (by decide) ?_
      refine x_istore (q := 155) (ls' := [(0, _), (1, _), (2, _), (3, _), (4, _), (5, _)]) [1, 2, 3, 4, 5, 0] dX9_nodeLines_153 rfl (by decide) rfl ?_
      refine x_aload_n (q := 156) dX9_nodeLines_155 rfl rfl ?_
      refine m_get (q := 159) hM 8 fwX9_26 (by decide) dX9_nodeLines_156 rfl rfl ?_
      refine x_iload_n (q := 160) dX9_nodeLines_159 rfl rfl ?_
      refine m_zald (q := 161) hM (n := 4) (by decide) dX9_nodeLines_160 rfl (by omega) ?_
      rw [(onlyL.rfl').2.1, hTn, hU]
      refine x_if_eq (q := 164) 181 dX9_nodeLines_161 (by decide) rfl (fun hc161 => absurd hc161 (by decide)) (fun hc161 => ?_)
      refine x_iload (q := 166) dX9_nodeLines_164 rfl rfl ?_
      refine xn_if_eq (q := 169) 181 dX9_nodeLines_166 (by decide) rfl (by omega) (fun hc166 => absurd hc166 (by decide)) (fun hc166 => ?_)
      refine x_aload_n (q := 170) dX9_nodeLines_169 rfl rfl ?_
      refine x_iload_n (q := 171) dX9_nodeLines_170 rfl rfl ?_
      refine xn_iconst (q := 172) 1 dX9_nodeLines_171 rfl (by decide) ?_
      refine xn_iadd (q := 173) dX9_nodeLines_172 rfl ?_
      refine xn_lconst (q := 174) 1 dX9_nodeLines_173 rfl (by decide) ?_
      refine xn_iconst (q := 175) 0 dX9_nodeLines_174 rfl (by decide) ?_
      refine xn_lconst (q := 176) 0 dX9_nodeLines_175 rfl (by decide) ?_
      refine xn_iconst (q := 177) 0 dX9_nodeLines_176 rfl (by decide) ?_
      refine xn_lconst (q := 178) 0 dX9_nodeLines_177 rfl (by decide) ?_
      refine m_call (q := 181) (As := [_, _, _, _, _, _]) hM imX9_line ivX9_line ilX9_line mwX9_234 xciX9 dX9_nodeLines_178 rfl rfl rfl (Nat.le_of_ble_eq_true rfl) ?_
      refine (c_line G l o as M0 N S d σ (2 * node - 2 + 1) (0) (0) _ _ _ (1) (0) (0) (lN_i' _) (lN_i' _) (lN_i' _) (by omega) (by omega) (by omega) (n) (by omega) _ hR).mono (fun x σc1 hp => ?_)
      obtain ⟨rfl, qc1, lc1⟩ := hp
      intro M hM
      have oc1 : onlyL σ σc1 := (onlyL.rfl').trans qc1
      show xX G l _ (d + 1) _ _ _ [] M N S
      refine x_aload_n (q := 182) dX9_nodeLines_181 rfl rfl ?_
      refine m_get (q := 185) hM 8 fwX9_26 (by decide) dX9_nodeLines_182 rfl rfl ?_
      refine x_iload_n (q := 186) dX9_nodeLines_185 rfl rfl ?_
      refine m_zald (q := 187) hM (n := 4) (by decide) dX9_nodeLines_186 rfl (by omega) ?_
      rw [(oc1).2.1, hTn, hU]
      refine x_if_eq (q := 190) 209 dX9_nodeLines_187 (by decide) rfl (fun hc187 => absurd hc187 (by decide)) (fun hc187 => ?_)
      refine x_iload (q := 192) dX9_nodeLines_190 rfl rfl ?_
      refine xn_if_eq (q := 195) 209 dX9_nodeLines_192 (by decide) rfl (by omega) (fun hc192 => ?_) (fun hc192 => absurd hc192 (by decide))
      refine x_aload_n (q := 210) dX9_nodeLines_209 rfl rfl ?_
      refine m_get (q := 213) hM 8 fwX9_26 (by decide) dX9_nodeLines_210 rfl rfl ?_
      refine x_iload_n (q := 214) dX9_nodeLines_213 rfl rfl ?_
      refine m_zald (q := 215) hM (n := 4) (by decide) dX9_nodeLines_214 rfl (by omega) ?_
      rw [(oc1).2.1, hTn, hU]
      refine x_if_ne (q := 218) 246 dX9_nodeLines_215 (by decide) rfl (fun hc215 => ?_) (fun hc215 => absurd hc215 (by decide))
      refine x_vret rfl dX9_nodeLines_246 (m_ret hM ⟨rfl, oc1, ?_⟩)
      simp only [nlP, h0, hR0, hB, hl, hU, decide_true, decide_false, Bool.not_true, Bool.not_false, Bool.and_true, Bool.true_and, Bool.and_false, Bool.false_and, Bool.and_self, if_true, if_false, reduceIte, Bool.false_eq_true]
      exact lc1
    · refine x_iload_n (q := 1) dX9_nodeLines_0 rfl rfl ?_
      refine x_aload_n (q := 2) dX9_nodeLines_1 rfl rfl ?_
      refine m_get (q := 5) hM 3 fwX9_93 (by decide) dX9_nodeLines_2 rfl rfl ?_
      rw [(onlyL.rfl').1 3 (by decide), hm]
      refine xn_icmp_ge (q := 8) 12 dX9_nodeLines_5 (by decide) rfl (by omega) (by omega) (fun hc5 => ?_) (fun hc5 => absurd hc5 (by omega))
      refine xn_iconst (q := 13) 0 dX9_nodeLines_12 rfl (by decide) ?_
      refine x_istore_n (q := 14) (ls' := [(0, _), (1, _), (2, _)]) [1, 2, 0] dX9_nodeLines_13 rfl (by decide) rfl ?_
      refine xn_iconst (q := 15) 2 dX9_nodeLines_14 rfl (by decide) ?_
      refine x_iload_n (q := 16) dX9_nodeLines_15 rfl rfl ?_
      refine xn_imul (q := 17) dX9_nodeLines_16 rfl ?_
      refine xn_iconst (q := 18) 2 dX9_nodeLines_17 rfl (by decide) ?_
      refine xn_isub (q := 19) dX9_nodeLines_18 rfl (by omega) ?_
      refine x_istore_n (q := 20) (ls' := [(0, _), (1, _), (2, _), (3, _)]) [1, 2, 3, 0] dX9_nodeLines_19 rfl (by decide) rfl ?_
      refine x_iload_n (q := 21) dX9_nodeLines_20 rfl rfl ?_
      refine xn_if_le (q := 24) 52 dX9_nodeLines_21 (by decide) rfl (by omega) (fun hc21 => absurd hc21 (by omega)) (fun hc21 => ?_)
      refine x_iload_n (q := 25) dX9_nodeLines_24 rfl rfl ?_
      refine xn_if_eq (q := 28) 52 dX9_nodeLines_25 (by decide) rfl (by omega) (fun hc25 => ?_) (fun hc25 => absurd hc25 (by decide))
      refine x_aload_n (q := 53) dX9_nodeLines_52 rfl rfl ?_
      refine m_get (q := 56) hM 7 fwX9_23 (by decide) dX9_nodeLines_53 rfl rfl ?_
      refine x_iload_n (q := 57) dX9_nodeLines_56 rfl rfl ?_
      refine m_zald (q := 58) hM (n := 4) (by decide) dX9_nodeLines_57 rfl (by omega) ?_
      rw [(onlyL.rfl').2.1, hHn, hB]
      refine x_if_eq (q := 61) 109 dX9_nodeLines_58 (by decide) rfl (fun hc58 => ?_) (fun hc58 => absurd (by decide) hc58)
      refine x_iload_n (q := 110) dX9_nodeLines_109 rfl rfl ?_
      refine xn_if_le (q := 113) 130 dX9_nodeLines_110 (by decide) rfl (by omega) (fun hc110 => absurd hc110 (by omega)) (fun hc110 => ?_)
      refine x_aload_n (q := 114) dX9_nodeLines_113 rfl rfl ?_
      refine m_get (q := 117) hM 6 fwX9_19 (by decide) dX9_nodeLines_114 rfl rfl ?_
      refine xn_iconst (q := 118) 2 dX9_nodeLines_117 rfl (by decide) ?_
      refine x_iload_n (q := 119) dX9_nodeLines_118 rfl rfl ?_
      refine xn_imul (q := 120) dX9_nodeLines_119 rfl ?_
      refine xn_iconst (q := 121) 1 dX9_nodeLines_120 rfl (by decide) ?_
      refine xn_isub (q := 122) dX9_nodeLines_121 rfl (by omega) ?_
      refine m_zald (q := 123) hM (n := 6) (by decide) dX9_nodeLines_122 rfl (by omega) ?_
      rw [(onlyL.rfl').2.1, hHl, hl]
      refine x_if_ne (q := 126) 130 dX9_nodeLines_123 (by decide) rfl (fun hc123 => ?_) (fun hc123 => absurd hc123 (by decide))
      refine xn_iconst (q := 131) 0 dX9_nodeLines_130 rfl (by decide) ?_
      refine x_istore (q := 133) (ls' := [(0, _), (1, _), (2, _), (3, _), (4, _)]) [1, 2, 3, 4, 0] dX9_nodeLines_131 rfl (by decide) rfl ?_
      refine x_iload_n (q := 134) dX9_nodeLines_133 rfl rfl ?_
      refine xn_if_eq (q := 137) 152 dX9_nodeLines_134 (by decide) rfl (by omega) (fun hc134 => ?_) (fun hc134 => absurd hc134 (by decide))
      refine xn_iconst (q := 153) 0 dX9_nodeLines_152 rfl (by decide) ?_
      refine x_istore (q := 155) (ls' := [(0, _), (1, _), (2, _), (3, _), (4, _), (5, _)]) [1, 2, 3, 4, 5, 0] dX9_nodeLines_153 rfl (by decide) rfl ?_
      refine x_aload_n (q := 156) dX9_nodeLines_155 rfl rfl ?_
      refine m_get (q := 159) hM 8 fwX9_26 (by decide) dX9_nodeLines_156 rfl rfl ?_
      refine x_iload_n (q := 160) dX9_nodeLines_159 rfl rfl ?_
      refine m_zald (q := 161) hM (n := 4) (by decide) dX9_nodeLines_160 rfl (by omega) ?_
      rw [(onlyL.rfl').2.1, hTn, hU]
      refine x_if_eq (q := 164) 181 dX9_nodeLines_161 (by decide) rfl (fun hc161 => ?_) (fun hc161 => absurd (by decide) hc161)
      refine x_aload_n (q := 182) dX9_nodeLines_181 rfl rfl ?_
      refine m_get (q := 185) hM 8 fwX9_26 (by decide) dX9_nodeLines_182 rfl rfl ?_
      refine x_iload_n (q := 186) dX9_nodeLines_185 rfl rfl ?_
      refine m_zald (q := 187) hM (n := 4) (by decide) dX9_nodeLines_186 rfl (by omega) ?_
      rw [(onlyL.rfl').2.1, hTn, hU]
      refine x_if_eq (q := 190) 209 dX9_nodeLines_187 (by decide) rfl (fun hc187 => ?_) (fun hc187 => absurd (by decide) hc187)
      refine x_aload_n (q := 210) dX9_nodeLines_209 rfl rfl ?_
      refine m_get (q := 213) hM 8 fwX9_26 (by decide) dX9_nodeLines_210 rfl rfl ?_
      refine x_iload_n (q := 214) dX9_nodeLines_213 rfl rfl ?_
      refine m_zald (q := 215) hM (n := 4) (by decide) dX9_nodeLines_214 rfl (by omega) ?_
      rw [(onlyL.rfl').2.1, hTn, hU]
      refine x_if_ne (q := 218) 246 dX9_nodeLines_215 (by decide) rfl (fun hc215 => absurd hc215 (by decide)) (fun hc215 => ?_)
      refine x_iload (q := 220) dX9_nodeLines_218 rfl rfl ?_
      refine xn_if_eq (q := 223) 246 dX9_nodeLines_220 (by decide) rfl (by omega) (fun hc220 => ?_) (fun hc220 => absurd hc220 (by decide))
      refine x_vret rfl dX9_nodeLines_246 (m_ret hM ⟨rfl, onlyL.rfl', ?_⟩)
      simp only [nlP, h0, hR0, hB, hl, hU, decide_true, decide_false, Bool.not_true, Bool.not_false, Bool.and_true, Bool.true_and, Bool.and_false, Bool.false_and, Bool.and_self, if_true, if_false, reduceIte, Bool.false_eq_true]
      exact hR
    · refine x_iload_n (q := 1) dX9_nodeLines_0 rfl rfl ?_
      refine x_aload_n (q := 2) dX9_nodeLines_1 rfl rfl ?_
      refine m_get (q := 5) hM 3 fwX9_93 (by decide) dX9_nodeLines_2 rfl rfl ?_
      rw [(onlyL.rfl').1 3 (by decide), hm]
      refine xn_icmp_ge (q := 8) 12 dX9_nodeLines_5 (by decide) rfl (by omega) (by omega) (fun hc5 => ?_) (fun hc5 => absurd hc5 (by omega))
      refine xn_iconst (q := 13) 0 dX9_nodeLines_12 rfl (by decide) ?_
      refine x_istore_n (q := 14) (ls' := [(0, _), (1, _), (2, _)]) [1, 2, 0] dX9_nodeLines_13 rfl (by decide) rfl ?_
      refine xn_iconst (q := 15) 2 dX9_nodeLines_14 rfl (by decide) ?_
      refine x_iload_n (q := 16) dX9_nodeLines_15 rfl rfl ?_
      refine xn_imul (q := 17) dX9_nodeLines_16 rfl ?_
      refine xn_iconst (q := 18) 2 dX9_nodeLines_17 rfl (by decide) ?_
      refine xn_isub (q := 19) dX9_nodeLines_18 rfl (by omega) ?_
      refine x_istore_n (q := 20) (ls' := [(0, _), (1, _), (2, _), (3, _)]) [1, 2, 3, 0] dX9_nodeLines_19 rfl (by decide) rfl ?_
      refine x_iload_n (q := 21) dX9_nodeLines_20 rfl rfl ?_
      refine xn_if_le (q := 24) 52 dX9_nodeLines_21 (by decide) rfl (by omega) (fun hc21 => absurd hc21 (by omega)) (fun hc21 => ?_)
      refine x_iload_n (q := 25) dX9_nodeLines_24 rfl rfl ?_
      refine xn_if_eq (q := 28) 52 dX9_nodeLines_25 (by decide) rfl (by omega) (fun hc25 => ?_) (fun hc25 => absurd hc25 (by decide))
      refine x_aload_n (q := 53) dX9_nodeLines_52 rfl rfl ?_
      refine m_get (q := 56) hM 7 fwX9_23 (by decide) dX9_nodeLines_53 rfl rfl ?_
      refine x_iload_n (q := 57) dX9_nodeLines_56 rfl rfl ?_
      refine m_zald (q := 58) hM (n := 4) (by decide) dX9_nodeLines_57 rfl (by omega) ?_
      rw [(onlyL.rfl').2.1, hHn, hB]
      refine x_if_eq (q := 61) 109 dX9_nodeLines_58 (by decide) rfl (fun hc58 => ?_) (fun hc58 => absurd (by decide) hc58)
      refine x_iload_n (q := 110) dX9_nodeLines_109 rfl rfl ?_
      refine xn_if_le (q := 113) 130 dX9_nodeLines_110 (by decide) rfl (by omega) (fun hc110 => absurd hc110 (by omega)) (fun hc110 => ?_)
      refine x_aload_n (q := 114) dX9_nodeLines_113 rfl rfl ?_
      refine m_get (q := 117) hM 6 fwX9_19 (by decide) dX9_nodeLines_114 rfl rfl ?_
      refine xn_iconst (q := 118) 2 dX9_nodeLines_117 rfl (by decide) ?_
      refine x_iload_n (q := 119) dX9_nodeLines_118 rfl rfl ?_
      refine xn_imul (q := 120) dX9_nodeLines_119 rfl ?_
      refine xn_iconst (q := 121) 1 dX9_nodeLines_120 rfl (by decide) ?_
      refine xn_isub (q := 122) dX9_nodeLines_121 rfl (by omega) ?_
      refine m_zald (q := 123) hM (n := 6) (by decide) dX9_nodeLines_122 rfl (by omega) ?_
      rw [(onlyL.rfl').2.1, hHl, hl]
      refine x_if_ne (q := 126) 130 dX9_nodeLines_123 (by decide) rfl (fun hc123 => ?_) (fun hc123 => absurd hc123 (by decide))
      refine xn_iconst (q := 131) 0 dX9_nodeLines_130 rfl (by decide) ?_
      refine x_istore (q := 133) (ls' := [(0, _), (1, _), (2, _), (3, _), (4, _)]) [1, 2, 3, 4, 0] dX9_nodeLines_131 rfl (by decide) rfl ?_
      refine x_iload_n (q := 134) dX9_nodeLines_133 rfl rfl ?_
      refine xn_if_eq (q := 137) 152 dX9_nodeLines_134 (by decide) rfl (by omega) (fun hc134 => ?_) (fun hc134 => absurd hc134 (by decide))
      refine xn_iconst (q := 153) 0 dX9_nodeLines_152 rfl (by decide) ?_
      refine x_istore (q := 155) (ls' := [(0, _), (1, _), (2, _), (3, _), (4, _), (5, _)]) [1, 2, 3, 4, 5, 0] dX9_nodeLines_153 rfl (by decide) rfl ?_
      refine x_aload_n (q := 156) dX9_nodeLines_155 rfl rfl ?_
      refine m_get (q := 159) hM 8 fwX9_26 (by decide) dX9_nodeLines_156 rfl rfl ?_
      refine x_iload_n (q := 160) dX9_nodeLines_159 rfl rfl ?_
      refine m_zald (q := 161) hM (n := 4) (by decide) dX9_nodeLines_160 rfl (by omega) ?_
      rw [(onlyL.rfl').2.1, hTn, hU]
      refine x_if_eq (q := 164) 181 dX9_nodeLines_161 (by decide) rfl (fun hc161 => absurd hc161 (by decide)) (fun hc161 => ?_)
      refine x_iload (q := 166) dX9_nodeLines_164 rfl rfl ?_
      refine xn_if_eq (q := 169) 181 dX9_nodeLines_166 (by decide) rfl (by omega) (fun hc166 => ?_) (fun hc166 => absurd hc166 (by decide))
      refine x_aload_n (q := 182) dX9_nodeLines_181 rfl rfl ?_
      refine m_get (q := 185) hM 8 fwX9_26 (by decide) dX9_nodeLines_182 rfl rfl ?_
      refine x_iload_n (q := 186) dX9_nodeLines_185 rfl rfl ?_
      refine m_zald (q := 187) hM (n := 4) (by decide) dX9_nodeLines_186 rfl (by omega) ?_
      rw [(onlyL.rfl').2.1, hTn, hU]
      refine x_if_eq (q := 190) 209 dX9_nodeLines_187 (by decide) rfl (fun hc187 => absurd hc187 (by decide)) (fun hc187 => ?_)
      refine x_iload (q := 192) dX9_nodeLines_190 rfl rfl ?_
      refine xn_if_eq (q := 195) 209 dX9_nodeLines_192 (by decide) rfl (by omega) (fun hc192 => ?_) (fun hc192 => absurd hc192 (by decide))
      refine x_aload_n (q := 210) dX9_nodeLines_209 rfl rfl ?_
      refine m_get (q := 213) hM 8 fwX9_26 (by decide) dX9_nodeLines_210 rfl rfl ?_
      refine x_iload_n (q := 214) dX9_nodeLines_213 rfl rfl ?_
      refine m_zald (q := 215) hM (n := 4) (by decide) dX9_nodeLines_214 rfl (by omega) ?_
      rw [(onlyL.rfl').2.1, hTn, hU]
      refine x_if_ne (q := 218) 246 dX9_nodeLines_215 (by decide) rfl (fun hc215 => ?_) (fun hc215 => absurd hc215 (by decide))
      refine x_vret rfl dX9_nodeLines_246 (m_ret hM ⟨rfl, onlyL.rfl', ?_⟩)
      simp only [nlP, h0, hR0, hB, hl, hU, decide_true, decide_false, Bool.not_true, Bool.not_false, Bool.and_true, Bool.true_and, Bool.and_false, Bool.false_and, Bool.and_self, if_true, if_false, reduceIte, Bool.false_eq_true]
      exact hR
    · refine x_iload_n (q := 1) dX9_nodeLines_0 rfl rfl ?_
      refine x_aload_n (q := 2) dX9_nodeLines_1 rfl rfl ?_
      refine m_get (q := 5) hM 3 fwX9_93 (by decide) dX9_nodeLines_2 rfl rfl ?_
      rw [(onlyL.rfl').1 3 (by decide), hm]
      refine xn_icmp_ge (q := 8) 12 dX9_nodeLines_5 (by decide) rfl (by omega) (by omega) (fun hc5 => ?_) (fun hc5 => absurd hc5 (by omega))
      refine xn_iconst (q := 13) 0 dX9_nodeLines_12 rfl (by decide) ?_
      refine x_istore_n (q := 14) (ls' := [(0, _), (1, _), (2, _)]) [1, 2, 0] dX9_nodeLines_13 rfl (by decide) rfl ?_
      refine xn_iconst (q := 15) 2 dX9_nodeLines_14 rfl (by decide) ?_
      refine x_iload_n (q := 16) dX9_nodeLines_15 rfl rfl ?_
      refine xn_imul (q := 17) dX9_nodeLines_16 rfl ?_
      refine xn_iconst (q := 18) 2 dX9_nodeLines_17 rfl (by decide) ?_
      refine xn_isub (q := 19) dX9_nodeLines_18 rfl (by omega) ?_
      refine x_istore_n (q := 20) (ls' := [(0, _), (1, _), (2, _), (3, _)]) [1, 2, 3, 0] dX9_nodeLines_19 rfl (by decide) rfl ?_
      refine x_iload_n (q := 21) dX9_nodeLines_20 rfl rfl ?_
      refine xn_if_le (q := 24) 52 dX9_nodeLines_21 (by decide) rfl (by omega) (fun hc21 => absurd hc21 (by omega)) (fun hc21 => ?_)
      refine x_iload_n (q := 25) dX9_nodeLines_24 rfl rfl ?_
      refine xn_if_eq (q := 28) 52 dX9_nodeLines_25 (by decide) rfl (by omega) (fun hc25 => ?_) (fun hc25 => absurd hc25 (by decide))
      refine x_aload_n (q := 53) dX9_nodeLines_52 rfl rfl ?_
      refine m_get (q := 56) hM 7 fwX9_23 (by decide) dX9_nodeLines_53 rfl rfl ?_
      refine x_iload_n (q := 57) dX9_nodeLines_56 rfl rfl ?_
      refine m_zald (q := 58) hM (n := 4) (by decide) dX9_nodeLines_57 rfl (by omega) ?_
      rw [(onlyL.rfl').2.1, hHn, hB]
      refine x_if_eq (q := 61) 109 dX9_nodeLines_58 (by decide) rfl (fun hc58 => absurd hc58 (by decide)) (fun hc58 => ?_)
      refine x_aload_n (q := 62) dX9_nodeLines_61 rfl rfl ?_
      refine x_iload_n (q := 63) dX9_nodeLines_62 rfl rfl ?_
      refine xn_if_eq (q := 66) 72 dX9_nodeLines_63 (by decide) rfl (by omega) (fun hc63 => ?_) (fun hc63 => absurd hc63 (by decide))
      refine x_iload_n (q := 73) dX9_nodeLines_72 rfl rfl ?_
      refine xn_lconst (q := 74) 1 dX9_nodeLines_73 rfl (by decide) ?_
      refine x_iload_n (q := 75) dX9_nodeLines_74 rfl rfl ?_
      refine xn_if_eq (q := 78) 84 dX9_nodeLines_75 (by decide) rfl (by omega) (fun hc75 => ?_) (fun hc75 => absurd hc75 (by decide))
      refine x_iload_n (q := 85) dX9_nodeLines_84 rfl rfl ?_
      refine xn_iconst (q := 86) 1 dX9_nodeLines_85 rfl (by decide) ?_
      refine xn_iadd (q := 87) dX9_nodeLines_86 rfl ?_
      refine x_iload_n (q := 88) dX9_nodeLines_87 rfl rfl ?_
      refine xn_if_eq (q := 91) 95 dX9_nodeLines_88 (by decide) rfl (by omega) (fun hc88 => ?_) (fun hc88 => absurd hc88 (by decide))
      refine x_aload_n (q := 96) dX9_nodeLines_95 rfl rfl ?_
      refine m_get (q := 99) hM 4 fwX9_13 (by decide) dX9_nodeLines_96 rfl rfl ?_
      refine x_iload_n (q := 100) dX9_nodeLines_99 rfl rfl ?_
      refine xn_iconst (q := 101) 1 dX9_nodeLines_100 rfl (by decide) ?_
      refine xn_isub (q := 102) dX9_nodeLines_101 rfl (by omega) ?_
      refine m_iald (q := 103) hM (n := 3) (by decide) dX9_nodeLines_102 rfl (by omega) ?_
      rw [(onlyL.rfl').2.1, hL1]
      refine xn_i2l (q := 104) dX9_nodeLines_103 rfl (by omega) ?_
      refine xn_iconst (q := 105) 0 dX9_nodeLines_104 rfl (by decide) ?_
      refine xn_lconst (q := 106) 0 dX9_nodeLines_105 rfl (by decide) ?_
      refine m_call (q := 109) (As := [_, _, _, _, _, _]) hM imX9_line ivX9_line ilX9_line mwX9_234 xciX9 dX9_nodeLines_106 rfl rfl rfl (Nat.le_of_ble_eq_true rfl) ?_
      refine (c_line G l o as M0 N S d σ (2 * node - 2) (2 * node - 2 + 1) (0) _ _ _ (1) (c.L (node - 1)) (0) (lN_i' _) (lN_i' _) (lN_i' _) (by omega) (by omega) (by omega) (n) (by omega) _ hR).mono (fun x σc1 hp => ?_)
      obtain ⟨rfl, qc1, lc1⟩ := hp
      intro M hM
      have oc1 : onlyL σ σc1 := (onlyL.rfl').trans qc1
      show xX G l _ (d + 1) _ _ _ [] M N S
      refine x_iload_n (q := 110) dX9_nodeLines_109 rfl rfl ?_
      refine xn_if_le (q := 113) 130 dX9_nodeLines_110 (by decide) rfl (by omega) (fun hc110 => absurd hc110 (by omega)) (fun hc110 => ?_)
      refine x_aload_n (q := 114) dX9_nodeLines_113 rfl rfl ?_
      refine m_get (q := 117) hM 6 fwX9_19 (by decide) dX9_nodeLines_114 rfl rfl ?_
      refine xn_iconst (q := 118) 2 dX9_nodeLines_117 rfl (by decide) ?_
      refine x_iload_n (q := 119) dX9_nodeLines_118 rfl rfl ?_
      refine xn_imul (q := 120) dX9_nodeLines_119 rfl ?_
      refine xn_iconst (q := 121) 1 dX9_nodeLines_120 rfl (by decide) ?_
      refine xn_isub (q := 122) dX9_nodeLines_121 rfl (by omega) ?_
      refine m_zald (q := 123) hM (n := 6) (by decide) dX9_nodeLines_122 rfl (by omega) ?_
      rw [(oc1).2.1, hHl, hl]
      refine x_if_ne (q := 126) 130 dX9_nodeLines_123 (by decide) rfl (fun hc123 => absurd hc123 (by decide)) (fun hc123 => ?_)
      refine xn_iconst (q := 127) 1 dX9_nodeLines_126 rfl (by decide) ?_
      refine x_goto 131 dX9_nodeLines_127 (by decide) ?_
      refine x_istore (q := 133) (ls' := [(0, _), (1, _), (2, _), (3, _), (4, _)]) [1, 2, 3, 4, 0] dX9_nodeLines_131 rfl (by decide) rfl ?_
      refine x_iload_n (q := 134) dX9_nodeLines_133 rfl rfl ?_
      refine xn_if_eq (q := 137) 152 dX9_nodeLines_134 (by decide) rfl (by omega) (fun hc134 => ?_) (fun hc134 => absurd hc134 (by decide))
      refine xn_iconst (q := 153) 0 dX9_nodeLines_152 rfl (by decide) ?_
      refine x_istore (q := 155) (ls' := [(0, _), (1, _), (2, _), (3, _), (4, _), (5, _)]) [1, 2, 3, 4, 5, 0] dX9_nodeLines_153 rfl (by decide) rfl ?_
      refine x_aload_n (q := 156) dX9_nodeLines_155 rfl rfl ?_
      refine m_get (q := 159) hM 8 fwX9_26 (by decide) dX9_nodeLines_156 rfl rfl ?_
      refine x_iload_n (q := 160) dX9_nodeLines_159 rfl rfl ?_
      refine m_zald (q := 161) hM (n := 4) (by decide) dX9_nodeLines_160 rfl (by omega) ?_
      rw [(oc1).2.1, hTn, hU]
      refine x_if_eq (q := 164) 181 dX9_nodeLines_161 (by decide) rfl (fun hc161 => ?_) (fun hc161 => absurd (by decide) hc161)
      refine x_aload_n (q := 182) dX9_nodeLines_181 rfl rfl ?_
      refine m_get (q := 185) hM 8 fwX9_26 (by decide) dX9_nodeLines_182 rfl rfl ?_
      refine x_iload_n (q := 186) dX9_nodeLines_185 rfl rfl ?_
      refine m_zald (q := 187) hM (n := 4) (by decide) dX9_nodeLines_186 rfl (by omega) ?_
      rw [(oc1).2.1, hTn, hU]
      refine x_if_eq (q := 190) 209 dX9_nodeLines_187 (by decide) rfl (fun hc187 => ?_) (fun hc187 => absurd (by decide) hc187)
      refine x_aload_n (q := 210) dX9_nodeLines_209 rfl rfl ?_
      refine m_get (q := 213) hM 8 fwX9_26 (by decide) dX9_nodeLines_210 rfl rfl ?_
      refine x_iload_n (q := 214) dX9_nodeLines_213 rfl rfl ?_
      refine m_zald (q := 215) hM (n := 4) (by decide) dX9_nodeLines_214 rfl (by omega) ?_
      rw [(oc1).2.1, hTn, hU]
      refine x_if_ne (q := 218) 246 dX9_nodeLines_215 (by decide) rfl (fun hc215 => absurd hc215 (by decide)) (fun hc215 => ?_)
      refine x_iload (q := 220) dX9_nodeLines_218 rfl rfl ?_
      refine xn_if_eq (q := 223) 246 dX9_nodeLines_220 (by decide) rfl (by omega) (fun hc220 => absurd hc220 (by decide)) (fun hc220 => ?_)
      refine x_iload (q := 225) dX9_nodeLines_223 rfl rfl ?_
      refine xn_if_eq (q := 228) 246 dX9_nodeLines_225 (by decide) rfl (by omega) (fun hc225 => ?_) (fun hc225 => absurd hc225 (by decide))
      refine x_vret rfl dX9_nodeLines_246 (m_ret hM ⟨rfl, oc1, ?_⟩)
      simp only [nlP, h0, hR0, hB, hl, hU, decide_true, decide_false, Bool.not_true, Bool.not_false, Bool.and_true, Bool.true_and, Bool.and_false, Bool.false_and, Bool.and_self, if_true, if_false, reduceIte, Bool.false_eq_true]
      exact lc1
    · refine x_iload_n (q := 1) dX9_nodeLines_0 rfl rfl ?_
      refine x_aload_n (q := 2) dX9_nodeLines_1 rfl rfl ?_
      refine m_get (q := 5) hM 3 fwX9_93 (by decide) dX9_nodeLines_2 rfl rfl ?_
      rw [(onlyL.rfl').1 3 (by decide), hm]
      refine xn_icmp_ge (q := 8) 12 dX9_nodeLines_5 (by decide) rfl (by omega) (by omega) (fun hc5 => ?_) (fun hc5 => absurd hc5 (by omega))
      refine xn_iconst (q := 13) 0 dX9_nodeLines_12 rfl (by decide) ?_
      refine x_istore_n (q := 14) (ls' := [(0, _), (1, _), (2, _)]) [1, 2, 0] dX9_nodeLines_13 rfl (by decide) rfl ?_
      refine xn_iconst (q := 15) 2 dX9_nodeLines_14 rfl (by decide) ?_
      refine x_iload_n (q := 16) dX9_nodeLines_15 rfl rfl ?_
      refine xn_imul (q := 17) dX9_nodeLines_16 rfl ?_
      refine xn_iconst (q := 18) 2 dX9_nodeLines_17 rfl (by decide) ?_
      refine xn_isub (q := 19) dX9_nodeLines_18 rfl (by omega) ?_
      refine x_istore_n (q := 20) (ls' := [(0, _), (1, _), (2, _), (3, _)]) [1, 2, 3, 0] dX9_nodeLines_19 rfl (by decide) rfl ?_
      refine x_iload_n (q := 21) dX9_nodeLines_20 rfl rfl ?_
      refine xn_if_le (q := 24) 52 dX9_nodeLines_21 (by decide) rfl (by omega) (fun hc21 => absurd hc21 (by omega)) (fun hc21 => ?_)
      refine x_iload_n (q := 25) dX9_nodeLines_24 rfl rfl ?_
      refine xn_if_eq (q := 28) 52 dX9_nodeLines_25 (by decide) rfl (by omega) (fun hc25 => ?_) (fun hc25 => absurd hc25 (by decide))
      refine x_aload_n (q := 53) dX9_nodeLines_52 rfl rfl ?_
      refine m_get (q := 56) hM 7 fwX9_23 (by decide) dX9_nodeLines_53 rfl rfl ?_
      refine x_iload_n (q := 57) dX9_nodeLines_56 rfl rfl ?_
      refine m_zald (q := 58) hM (n := 4) (by decide) dX9_nodeLines_57 rfl (by omega) ?_
      rw [(onlyL.rfl').2.1, hHn, hB]
      refine x_if_eq (q := 61) 109 dX9_nodeLines_58 (by decide) rfl (fun hc58 => absurd hc58 (by decide)) (fun hc58 => ?_)
      refine x_aload_n (q := 62) dX9_nodeLines_61 rfl rfl ?_
      refine x_iload_n (q := 63) dX9_nodeLines_62 rfl rfl ?_
      refine xn_if_eq (q := 66) 72 dX9_nodeLines_63 (by decide) rfl (by omega) (fun hc63 => ?_) (fun hc63 => absurd hc63 (by decide))
      refine x_iload_n (q := 73) dX9_nodeLines_72 rfl rfl ?_
      refine xn_lconst (q := 74) 1 dX9_nodeLines_73 rfl (by decide) ?_
      refine x_iload_n (q := 75) dX9_nodeLines_74 rfl rfl ?_
      refine xn_if_eq (q := 78) 84 dX9_nodeLines_75 (by decide) rfl (by omega) (fun hc75 => ?_) (fun hc75 => absurd hc75 (by decide))
      refine x_iload_n (q := 85) dX9_nodeLines_84 rfl rfl ?_
      refine xn_iconst (q := 86) 1 dX9_nodeLines_85 rfl (by decide) ?_
      refine xn_iadd (q := 87) dX9_nodeLines_86 rfl ?_
      refine x_iload_n (q := 88) dX9_nodeLines_87 rfl rfl ?_
      refine xn_if_eq (q := 91) 95 dX9_nodeLines_88 (by decide) rfl (by omega) (fun hc88 => ?_) (fun hc88 => absurd hc88 (by decide))
      refine x_aload_n (q := 96) dX9_nodeLines_95 rfl rfl ?_
      refine m_get (q := 99) hM 4 fwX9_13 (by decide) dX9_nodeLines_96 rfl rfl ?_
      refine x_iload_n (q := 100) dX9_nodeLines_99 rfl rfl ?_
      refine xn_iconst (q := 101) 1 dX9_nodeLines_100 rfl (by decide) ?_
      refine xn_isub (q := 102) dX9_nodeLines_101 rfl (by omega) ?_
      refine m_iald (q := 103) hM (n := 3) (by decide) dX9_nodeLines_102 rfl (by omega) ?_
      rw [(onlyL.rfl').2.1, hL1]
      refine xn_i2l (q := 104) dX9_nodeLines_103 rfl (by omega) ?_
      refine xn_iconst (q := 105) 0 dX9_nodeLines_104 rfl (by decide) ?_
      refine xn_lconst (q := 106) 0 dX9_nodeLines_105 rfl (by decide) ?_
      refine m_call (q := 109) (As := [_, _, _, _, _, _]) hM imX9_line ivX9_line ilX9_line mwX9_234 xciX9 dX9_nodeLines_106 rfl rfl rfl (Nat.le_of_ble_eq_true rfl) ?_
      refine (c_line G l o as M0 N S d σ (2 * node - 2) (2 * node - 2 + 1) (0) _ _ _ (1) (c.L (node - 1)) (0) (lN_i' _) (lN_i' _) (lN_i' _) (by omega) (by omega) (by omega) (n) (by omega) _ hR).mono (fun x σc1 hp => ?_)
      obtain ⟨rfl, qc1, lc1⟩ := hp
      intro M hM
      have oc1 : onlyL σ σc1 := (onlyL.rfl').trans qc1
      show xX G l _ (d + 1) _ _ _ [] M N S
      refine x_iload_n (q := 110) dX9_nodeLines_109 rfl rfl ?_
      refine xn_if_le (q := 113) 130 dX9_nodeLines_110 (by decide) rfl (by omega) (fun hc110 => absurd hc110 (by omega)) (fun hc110 => ?_)
      refine x_aload_n (q := 114) dX9_nodeLines_113 rfl rfl ?_
      refine m_get (q := 117) hM 6 fwX9_19 (by decide) dX9_nodeLines_114 rfl rfl ?_
      refine xn_iconst (q := 118) 2 dX9_nodeLines_117 rfl (by decide) ?_
      refine x_iload_n (q := 119) dX9_nodeLines_118 rfl rfl ?_
      refine xn_imul (q := 120) dX9_nodeLines_119 rfl ?_
      refine xn_iconst (q := 121) 1 dX9_nodeLines_120 rfl (by decide) ?_
      refine xn_isub (q := 122) dX9_nodeLines_121 rfl (by omega) ?_
      refine m_zald (q := 123) hM (n := 6) (by decide) dX9_nodeLines_122 rfl (by omega) ?_
      rw [(oc1).2.1, hHl, hl]
      refine x_if_ne (q := 126) 130 dX9_nodeLines_123 (by decide) rfl (fun hc123 => absurd hc123 (by decide)) (fun hc123 => ?_)
      refine xn_iconst (q := 127) 1 dX9_nodeLines_126 rfl (by decide) ?_
      refine x_goto 131 dX9_nodeLines_127 (by decide) ?_
      refine x_istore (q := 133) (ls' := [(0, _), (1, _), (2, _), (3, _), (4, _)]) [1, 2, 3, 4, 0] dX9_nodeLines_131 rfl (by decide) rfl ?_
      refine x_iload_n (q := 134) dX9_nodeLines_133 rfl rfl ?_
      refine xn_if_eq (q := 137) 152 dX9_nodeLines_134 (by decide) rfl (by omega) (fun hc134 => ?_) (fun hc134 => absurd hc134 (by decide))
      refine xn_iconst (q := 153) 0 dX9_nodeLines_152 rfl (by decide) ?_
      refine x_istore (q := 155) (ls' := [(0, _), (1, _), (2, _), (3, _), (4, _), (5, _)]) [1, 2, 3, 4, 5, 0] dX9_nodeLines_153 rfl (by decide) rfl ?_
      refine x_aload_n (q := 156) dX9_nodeLines_155 rfl rfl ?_
      refine m_get (q := 159) hM 8 fwX9_26 (by decide) dX9_nodeLines_156 rfl rfl ?_
      refine x_iload_n (q := 160) dX9_nodeLines_159 rfl rfl ?_
      refine m_zald (q := 161) hM (n := 4) (by decide) dX9_nodeLines_160 rfl (by omega) ?_
      rw [(oc1).2.1, hTn, hU]
      refine x_if_eq (q := 164) 181 dX9_nodeLines_161 (by decide) rfl (fun hc161 => absurd hc161 (by decide)) (fun hc161 => ?_)
      refine x_iload (q := 166) dX9_nodeLines_164 rfl rfl ?_
      refine xn_if_eq (q := 169) 181 dX9_nodeLines_166 (by decide) rfl (by omega) (fun hc166 => absurd hc166 (by decide)) (fun hc166 => ?_)
      refine x_aload_n (q := 170) dX9_nodeLines_169 rfl rfl ?_
      refine x_iload_n (q := 171) dX9_nodeLines_170 rfl rfl ?_
      refine xn_iconst (q := 172) 1 dX9_nodeLines_171 rfl (by decide) ?_
      refine xn_iadd (q := 173) dX9_nodeLines_172 rfl ?_
      refine xn_lconst (q := 174) 1 dX9_nodeLines_173 rfl (by decide) ?_
      refine xn_iconst (q := 175) 0 dX9_nodeLines_174 rfl (by decide) ?_
      refine xn_lconst (q := 176) 0 dX9_nodeLines_175 rfl (by decide) ?_
      refine xn_iconst (q := 177) 0 dX9_nodeLines_176 rfl (by decide) ?_
      refine xn_lconst (q := 178) 0 dX9_nodeLines_177 rfl (by decide) ?_
      refine m_call (q := 181) (As := [_, _, _, _, _, _]) hM imX9_line ivX9_line ilX9_line mwX9_234 xciX9 dX9_nodeLines_178 rfl rfl rfl (Nat.le_of_ble_eq_true rfl) ?_
      refine (c_line G l o as M0 N S d σc1 (2 * node - 2 + 1) (0) (0) _ _ _ (1) (0) (0) (lN_i' _) (lN_i' _) (lN_i' _) (by omega) (by omega) (by omega) (n + 1) (by omega) _ lc1).mono (fun x σc2 hp => ?_)
      obtain ⟨rfl, qc2, lc2⟩ := hp
      intro M hM
      have oc2 : onlyL σ σc2 := (oc1).trans qc2
      show xX G l _ (d + 1) _ _ _ [] M N S
      refine x_aload_n (q := 182) dX9_nodeLines_181 rfl rfl ?_
      refine m_get (q := 185) hM 8 fwX9_26 (by decide) dX9_nodeLines_182 rfl rfl ?_
      refine x_iload_n (q := 186) dX9_nodeLines_185 rfl rfl ?_
      refine m_zald (q := 187) hM (n := 4) (by decide) dX9_nodeLines_186 rfl (by omega) ?_
      rw [(oc2).2.1, hTn, hU]
      refine x_if_eq (q := 190) 209 dX9_nodeLines_187 (by decide) rfl (fun hc187 => absurd hc187 (by decide)) (fun hc187 => ?_)
      refine x_iload (q := 192) dX9_nodeLines_190 rfl rfl ?_
      refine xn_if_eq (q := 195) 209 dX9_nodeLines_192 (by decide) rfl (by omega) (fun hc192 => ?_) (fun hc192 => absurd hc192 (by decide))
      refine x_aload_n (q := 210) dX9_nodeLines_209 rfl rfl ?_
      refine m_get (q := 213) hM 8 fwX9_26 (by decide) dX9_nodeLines_210 rfl rfl ?_
      refine x_iload_n (q := 214) dX9_nodeLines_213 rfl rfl ?_
      refine m_zald (q := 215) hM (n := 4) (by decide) dX9_nodeLines_214 rfl (by omega) ?_
      rw [(oc2).2.1, hTn, hU]
      refine x_if_ne (q := 218) 246 dX9_nodeLines_215 (by decide) rfl (fun hc215 => ?_) (fun hc215 => absurd hc215 (by decide))
      refine x_vret rfl dX9_nodeLines_246 (m_ret hM ⟨rfl, oc2, ?_⟩)
      simp only [nlP, h0, hR0, hB, hl, hU, decide_true, decide_false, Bool.not_true, Bool.not_false, Bool.and_true, Bool.true_and, Bool.and_false, Bool.false_and, Bool.and_self, if_true, if_false, reduceIte, Bool.false_eq_true]
      exact lc2
    · refine x_iload_n (q := 1) dX9_nodeLines_0 rfl rfl ?_
      refine x_aload_n (q := 2) dX9_nodeLines_1 rfl rfl ?_
      refine m_get (q := 5) hM 3 fwX9_93 (by decide) dX9_nodeLines_2 rfl rfl ?_
      rw [(onlyL.rfl').1 3 (by decide), hm]
      refine xn_icmp_ge (q := 8) 12 dX9_nodeLines_5 (by decide) rfl (by omega) (by omega) (fun hc5 => ?_) (fun hc5 => absurd hc5 (by omega))
      refine xn_iconst (q := 13) 0 dX9_nodeLines_12 rfl (by decide) ?_
      refine x_istore_n (q := 14) (ls' := [(0, _), (1, _), (2, _)]) [1, 2, 0] dX9_nodeLines_13 rfl (by decide) rfl ?_
      refine xn_iconst (q := 15) 2 dX9_nodeLines_14 rfl (by decide) ?_
      refine x_iload_n (q := 16) dX9_nodeLines_15 rfl rfl ?_
      refine xn_imul (q := 17) dX9_nodeLines_16 rfl ?_
      refine xn_iconst (q := 18) 2 dX9_nodeLines_17 rfl (by decide) ?_
      refine xn_isub (q := 19) dX9_nodeLines_18 rfl (by omega) ?_
      refine x_istore_n (q := 20) (ls' := [(0, _), (1, _), (2, _), (3, _)]) [1, 2, 3, 0] dX9_nodeLines_19 rfl (by decide) rfl ?_
      refine x_iload_n (q := 21) dX9_nodeLines_20 rfl rfl ?_
      refine xn_if_le (q := 24) 52 dX9_nodeLines_21 (by decide) rfl (by omega) (fun hc21 => absurd hc21 (by omega)) (fun hc21 => ?_)
      refine x_iload_n (q := 25) dX9_nodeLines_24 rfl rfl ?_
      refine xn_if_eq (q := 28) 52 dX9_nodeLines_25 (by decide) rfl (by omega) (fun hc25 => ?_) (fun hc25 => absurd hc25 (by decide))
      refine x_aload_n (q := 53) dX9_nodeLines_52 rfl rfl ?_
      refine m_get (q := 56) hM 7 fwX9_23 (by decide) dX9_nodeLines_53 rfl rfl ?_
      refine x_iload_n (q := 57) dX9_nodeLines_56 rfl rfl ?_
      refine m_zald (q := 58) hM (n := 4) (by decide) dX9_nodeLines_57 rfl (by omega) ?_
      rw [(onlyL.rfl').2.1, hHn, hB]
      refine x_if_eq (q := 61) 109 dX9_nodeLines_58 (by decide) rfl (fun hc58 => absurd hc58 (by decide)) (fun hc58 => ?_)
      refine x_aload_n (q := 62) dX9_nodeLines_61 rfl rfl ?_
      refine x_iload_n (q := 63) dX9_nodeLines_62 rfl rfl ?_
      refine xn_if_eq (q := 66) 72 dX9_nodeLines_63 (by decide) rfl (by omega) (fun hc63 => ?_) (fun hc63 => absurd hc63 (by decide))
      refine x_iload_n (q := 73) dX9_nodeLines_72 rfl rfl ?_
      refine xn_lconst (q := 74) 1 dX9_nodeLines_73 rfl (by decide) ?_
      refine x_iload_n (q := 75) dX9_nodeLines_74 rfl rfl ?_
      refine xn_if_eq (q := 78) 84 dX9_nodeLines_75 (by decide) rfl (by omega) (fun hc75 => ?_) (fun hc75 => absurd hc75 (by decide))
      refine x_iload_n (q := 85) dX9_nodeLines_84 rfl rfl ?_
      refine xn_iconst (q := 86) 1 dX9_nodeLines_85 rfl (by decide) ?_
      refine xn_iadd (q := 87) dX9_nodeLines_86 rfl ?_
      refine x_iload_n (q := 88) dX9_nodeLines_87 rfl rfl ?_
      refine xn_if_eq (q := 91) 95 dX9_nodeLines_88 (by decide) rfl (by omega) (fun hc88 => ?_) (fun hc88 => absurd hc88 (by decide))
      refine x_aload_n (q := 96) dX9_nodeLines_95 rfl rfl ?_
      refine m_get (q := 99) hM 4 fwX9_13 (by decide) dX9_nodeLines_96 rfl rfl ?_
      refine x_iload_n (q := 100) dX9_nodeLines_99 rfl rfl ?_
      refine xn_iconst (q := 101) 1 dX9_nodeLines_100 rfl (by decide) ?_
      refine xn_isub (q := 102) dX9_nodeLines_101 rfl (by omega) ?_
      refine m_iald (q := 103) hM (n := 3) (by decide) dX9_nodeLines_102 rfl (by omega) ?_
      rw [(onlyL.rfl').2.1, hL1]
      refine xn_i2l (q := 104) dX9_nodeLines_103 rfl (by omega) ?_
      refine xn_iconst (q := 105) 0 dX9_nodeLines_104 rfl (by decide) ?_
      refine xn_lconst (q := 106) 0 dX9_nodeLines_105 rfl (by decide) ?_
      refine m_call (q := 109) (As := [_, _, _, _, _, _]) hM imX9_line ivX9_line ilX9_line mwX9_234 xciX9 dX9_nodeLines_106 rfl rfl rfl (Nat.le_of_ble_eq_true rfl) ?_
      refine (c_line G l o as M0 N S d σ (2 * node - 2) (2 * node - 2 + 1) (0) _ _ _ (1) (c.L (node - 1)) (0) (lN_i' _) (lN_i' _) (lN_i' _) (by omega) (by omega) (by omega) (n) (by omega) _ hR).mono (fun x σc1 hp => ?_)
      obtain ⟨rfl, qc1, lc1⟩ := hp
      intro M hM
      have oc1 : onlyL σ σc1 := (onlyL.rfl').trans qc1
      show xX G l _ (d + 1) _ _ _ [] M N S
      refine x_iload_n (q := 110) dX9_nodeLines_109 rfl rfl ?_
      refine xn_if_le (q := 113) 130 dX9_nodeLines_110 (by decide) rfl (by omega) (fun hc110 => absurd hc110 (by omega)) (fun hc110 => ?_)
      refine x_aload_n (q := 114) dX9_nodeLines_113 rfl rfl ?_
      refine m_get (q := 117) hM 6 fwX9_19 (by decide) dX9_nodeLines_114 rfl rfl ?_
      refine xn_iconst (q := 118) 2 dX9_nodeLines_117 rfl (by decide) ?_
      refine x_iload_n (q := 119) dX9_nodeLines_118 rfl rfl ?_
      refine xn_imul (q := 120) dX9_nodeLines_119 rfl ?_
      refine xn_iconst (q := 121) 1 dX9_nodeLines_120 rfl (by decide) ?_
      refine xn_isub (q := 122) dX9_nodeLines_121 rfl (by omega) ?_
      refine m_zald (q := 123) hM (n := 6) (by decide) dX9_nodeLines_122 rfl (by omega) ?_
      rw [(oc1).2.1, hHl, hl]
      refine x_if_ne (q := 126) 130 dX9_nodeLines_123 (by decide) rfl (fun hc123 => ?_) (fun hc123 => absurd hc123 (by decide))
      refine xn_iconst (q := 131) 0 dX9_nodeLines_130 rfl (by decide) ?_
      refine x_istore (q := 133) (ls' := [(0, _), (1, _), (2, _), (3, _), (4, _)]) [1, 2, 3, 4, 0] dX9_nodeLines_131 rfl (by decide) rfl ?_
      refine x_iload_n (q := 134) dX9_nodeLines_133 rfl rfl ?_
      refine xn_if_eq (q := 137) 152 dX9_nodeLines_134 (by decide) rfl (by omega) (fun hc134 => ?_) (fun hc134 => absurd hc134 (by decide))
      refine xn_iconst (q := 153) 0 dX9_nodeLines_152 rfl (by decide) ?_
      refine x_istore (q := 155) (ls' := [(0, _), (1, _), (2, _), (3, _), (4, _), (5, _)]) [1, 2, 3, 4, 5, 0] dX9_nodeLines_153 rfl (by decide) rfl ?_
      refine x_aload_n (q := 156) dX9_nodeLines_155 rfl rfl ?_
      refine m_get (q := 159) hM 8 fwX9_26 (by decide) dX9_nodeLines_156 rfl rfl ?_
      refine x_iload_n (q := 160) dX9_nodeLines_159 rfl rfl ?_
      refine m_zald (q := 161) hM (n := 4) (by decide) dX9_nodeLines_160 rfl (by omega) ?_
      rw [(oc1).2.1, hTn, hU]
      refine x_if_eq (q := 164) 181 dX9_nodeLines_161 (by decide) rfl (fun hc161 => ?_) (fun hc161 => absurd (by decide) hc161)
      refine x_aload_n (q := 182) dX9_nodeLines_181 rfl rfl ?_
      refine m_get (q := 185) hM 8 fwX9_26 (by decide) dX9_nodeLines_182 rfl rfl ?_
      refine x_iload_n (q := 186) dX9_nodeLines_185 rfl rfl ?_
      refine m_zald (q := 187) hM (n := 4) (by decide) dX9_nodeLines_186 rfl (by omega) ?_
      rw [(oc1).2.1, hTn, hU]
      refine x_if_eq (q := 190) 209 dX9_nodeLines_187 (by decide) rfl (fun hc187 => ?_) (fun hc187 => absurd (by decide) hc187)
      refine x_aload_n (q := 210) dX9_nodeLines_209 rfl rfl ?_
      refine m_get (q := 213) hM 8 fwX9_26 (by decide) dX9_nodeLines_210 rfl rfl ?_
      refine x_iload_n (q := 214) dX9_nodeLines_213 rfl rfl ?_
      refine m_zald (q := 215) hM (n := 4) (by decide) dX9_nodeLines_214 rfl (by omega) ?_
      rw [(oc1).2.1, hTn, hU]
      refine x_if_ne (q := 218) 246 dX9_nodeLines_215 (by decide) rfl (fun hc215 => absurd hc215 (by decide)) (fun hc215 => ?_)
      refine x_iload (q := 220) dX9_nodeLines_218 rfl rfl ?_
      refine xn_if_eq (q := 223) 246 dX9_nodeLines_220 (by decide) rfl (by omega) (fun hc220 => ?_) (fun hc220 => absurd hc220 (by decide))
      refine x_vret rfl dX9_nodeLines_246 (m_ret hM ⟨rfl, oc1, ?_⟩)
      simp only [nlP, h0, hR0, hB, hl, hU, decide_true, decide_false, Bool.not_true, Bool.not_false, Bool.and_true, Bool.true_and, Bool.and_false, Bool.false_and, Bool.and_self, if_true, if_false, reduceIte, Bool.false_eq_true]
      exact lc1
    · refine x_iload_n (q := 1) dX9_nodeLines_0 rfl rfl ?_
      refine x_aload_n (q := 2) dX9_nodeLines_1 rfl rfl ?_
      refine m_get (q := 5) hM 3 fwX9_93 (by decide) dX9_nodeLines_2 rfl rfl ?_
      rw [(onlyL.rfl').1 3 (by decide), hm]
      refine xn_icmp_ge (q := 8) 12 dX9_nodeLines_5 (by decide) rfl (by omega) (by omega) (fun hc5 => ?_) (fun hc5 => absurd hc5 (by omega))
      refine xn_iconst (q := 13) 0 dX9_nodeLines_12 rfl (by decide) ?_
      refine x_istore_n (q := 14) (ls' := [(0, _), (1, _), (2, _)]) [1, 2, 0] dX9_nodeLines_13 rfl (by decide) rfl ?_
      refine xn_iconst (q := 15) 2 dX9_nodeLines_14 rfl (by decide) ?_
      refine x_iload_n (q := 16) dX9_nodeLines_15 rfl rfl ?_
      refine xn_imul (q := 17) dX9_nodeLines_16 rfl ?_
      refine xn_iconst (q := 18) 2 dX9_nodeLines_17 rfl (by decide) ?_
      refine xn_isub (q := 19) dX9_nodeLines_18 rfl (by omega) ?_
      refine x_istore_n (q := 20) (ls' := [(0, _), (1, _), (2, _), (3, _)]) [1, 2, 3, 0] dX9_nodeLines_19 rfl (by decide) rfl ?_
      refine x_iload_n (q := 21) dX9_nodeLines_20 rfl rfl ?_
      refine xn_if_le (q := 24) 52 dX9_nodeLines_21 (by decide) rfl (by omega) (fun hc21 => absurd hc21 (by omega)) (fun hc21 => ?_)
      refine x_iload_n (q := 25) dX9_nodeLines_24 rfl rfl ?_
      refine xn_if_eq (q := 28) 52 dX9_nodeLines_25 (by decide) rfl (by omega) (fun hc25 => ?_) (fun hc25 => absurd hc25 (by decide))
      refine x_aload_n (q := 53) dX9_nodeLines_52 rfl rfl ?_
      refine m_get (q := 56) hM 7 fwX9_23 (by decide) dX9_nodeLines_53 rfl rfl ?_
      refine x_iload_n (q := 57) dX9_nodeLines_56 rfl rfl ?_
      refine m_zald (q := 58) hM (n := 4) (by decide) dX9_nodeLines_57 rfl (by omega) ?_
      rw [(onlyL.rfl').2.1, hHn, hB]
      refine x_if_eq (q := 61) 109 dX9_nodeLines_58 (by decide) rfl (fun hc58 => absurd hc58 (by decide)) (fun hc58 => ?_)
      refine x_aload_n (q := 62) dX9_nodeLines_61 rfl rfl ?_
      refine x_iload_n (q := 63) dX9_nodeLines_62 rfl rfl ?_
      refine xn_if_eq (q := 66) 72 dX9_nodeLines_63 (by decide) rfl (by omega) (fun hc63 => ?_) (fun hc63 => absurd hc63 (by decide))
      refine x_iload_n (q := 73) dX9_nodeLines_72 rfl rfl ?_
      refine xn_lconst (q := 74) 1 dX9_nodeLines_73 rfl (by decide) ?_
      refine x_iload_n (q := 75) dX9_nodeLines_74 rfl rfl ?_
      refine xn_if_eq (q := 78) 84 dX9_nodeLines_75 (by decide) rfl (by omega) (fun hc75 => ?_) (fun hc75 => absurd hc75 (by decide))
      refine x_iload_n (q := 85) dX9_nodeLines_84 rfl rfl ?_
      refine xn_iconst (q := 86) 1 dX9_nodeLines_85 rfl (by decide) ?_
      refine xn_iadd (q := 87) dX9_nodeLines_86 rfl ?_
      refine x_iload_n (q := 88) dX9_nodeLines_87 rfl rfl ?_
      refine xn_if_eq (q := 91) 95 dX9_nodeLines_88 (by decide) rfl (by omega) (fun hc88 => ?_) (fun hc88 => absurd hc88 (by decide))
      refine x_aload_n (q := 96) dX9_nodeLines_95 rfl rfl ?_
      refine m_get (q := 99) hM 4 fwX9_13 (by decide) dX9_nodeLines_96 rfl rfl ?_
      refine x_iload_n (q := 100) dX9_nodeLines_99 rfl rfl ?_
      refine xn_iconst (q := 101) 1 dX9_nodeLines_100 rfl (by decide) ?_
      refine xn_isub (q := 102) dX9_nodeLines_101 rfl (by omega) ?_
      refine m_iald (q := 103) hM (n := 3) (by decide) dX9_nodeLines_102 rfl (by omega) ?_
      rw [(onlyL.rfl').2.1, hL1]
      refine xn_i2l (q := 104) dX9_nodeLines_103 rfl (by omega) ?_
      refine xn_iconst (q := 105) 0 dX9_nodeLines_104 rfl (by decide) ?_
      refine xn_lconst (q := 106) 0 dX9_nodeLines_105 rfl (by decide) ?_
      refine m_call (q := 109) (As := [_, _, _, _, _, _]) hM imX9_line ivX9_line ilX9_line mwX9_234 xciX9 dX9_nodeLines_106 rfl rfl rfl (Nat.le_of_ble_eq_true rfl) ?_
      refine (c_line G l o as M0 N S d σ (2 * node - 2) (2 * node - 2 + 1) (0) _ _ _ (1) (c.L (node - 1)) (0) (lN_i' _) (lN_i' _) (lN_i' _) (by omega) (by omega) (by omega) (n) (by omega) _ hR).mono (fun x σc1 hp => ?_)
      obtain ⟨rfl, qc1, lc1⟩ := hp
      intro M hM
      have oc1 : onlyL σ σc1 := (onlyL.rfl').trans qc1
      show xX G l _ (d + 1) _ _ _ [] M N S
      refine x_iload_n (q := 110) dX9_nodeLines_109 rfl rfl ?_
      refine xn_if_le (q := 113) 130 dX9_nodeLines_110 (by decide) rfl (by omega) (fun hc110 => absurd hc110 (by omega)) (fun hc110 => ?_)
      refine x_aload_n (q := 114) dX9_nodeLines_113 rfl rfl ?_
      refine m_get (q := 117) hM 6 fwX9_19 (by decide) dX9_nodeLines_114 rfl rfl ?_
      refine xn_iconst (q := 118) 2 dX9_nodeLines_117 rfl (by decide) ?_
      refine x_iload_n (q := 119) dX9_nodeLines_118 rfl rfl ?_
      refine xn_imul (q := 120) dX9_nodeLines_119 rfl ?_
      refine xn_iconst (q := 121) 1 dX9_nodeLines_120 rfl (by decide) ?_
      refine xn_isub (q := 122) dX9_nodeLines_121 rfl (by omega) ?_
      refine m_zald (q := 123) hM (n := 6) (by decide) dX9_nodeLines_122 rfl (by omega) ?_
      rw [(oc1).2.1, hHl, hl]
      refine x_if_ne (q := 126) 130 dX9_nodeLines_123 (by decide) rfl (fun hc123 => ?_) (fun hc123 => absurd hc123 (by decide))
      refine xn_iconst (q := 131) 0 dX9_nodeLines_130 rfl (by decide) ?_
      refine x_istore (q := 133) (ls' := [(0, _), (1, _), (2, _), (3, _), (4, _)]) [1, 2, 3, 4, 0] dX9_nodeLines_131 rfl (by decide) rfl ?_
      refine x_iload_n (q := 134) dX9_nodeLines_133 rfl rfl ?_
      refine xn_if_eq (q := 137) 152 dX9_nodeLines_134 (by decide) rfl (by omega) (fun hc134 => ?_) (fun hc134 => absurd hc134 (by decide))
      refine xn_iconst (q := 153) 0 dX9_nodeLines_152 rfl (by decide) ?_
      refine x_istore (q := 155) (ls' := [(0, _), (1, _), (2, _), (3, _), (4, _), (5, _)]) [1, 2, 3, 4, 5, 0] dX9_nodeLines_153 rfl (by decide) rfl ?_
      refine x_aload_n (q := 156) dX9_nodeLines_155 rfl rfl ?_
      refine m_get (q := 159) hM 8 fwX9_26 (by decide) dX9_nodeLines_156 rfl rfl ?_
      refine x_iload_n (q := 160) dX9_nodeLines_159 rfl rfl ?_
      refine m_zald (q := 161) hM (n := 4) (by decide) dX9_nodeLines_160 rfl (by omega) ?_
      rw [(oc1).2.1, hTn, hU]
      refine x_if_eq (q := 164) 181 dX9_nodeLines_161 (by decide) rfl (fun hc161 => absurd hc161 (by decide)) (fun hc161 => ?_)
      refine x_iload (q := 166) dX9_nodeLines_164 rfl rfl ?_
      refine xn_if_eq (q := 169) 181 dX9_nodeLines_166 (by decide) rfl (by omega) (fun hc166 => ?_) (fun hc166 => absurd hc166 (by decide))
      refine x_aload_n (q := 182) dX9_nodeLines_181 rfl rfl ?_
      refine m_get (q := 185) hM 8 fwX9_26 (by decide) dX9_nodeLines_182 rfl rfl ?_
      refine x_iload_n (q := 186) dX9_nodeLines_185 rfl rfl ?_
      refine m_zald (q := 187) hM (n := 4) (by decide) dX9_nodeLines_186 rfl (by omega) ?_
      rw [(oc1).2.1, hTn, hU]
      refine x_if_eq (q := 190) 209 dX9_nodeLines_187 (by decide) rfl (fun hc187 => absurd hc187 (by decide)) (fun hc187 => ?_)
      refine x_iload (q := 192) dX9_nodeLines_190 rfl rfl ?_
      refine xn_if_eq (q := 195) 209 dX9_nodeLines_192 (by decide) rfl (by omega) (fun hc192 => ?_) (fun hc192 => absurd hc192 (by decide))
      refine x_aload_n (q := 210) dX9_nodeLines_209 rfl rfl ?_
      refine m_get (q := 213) hM 8 fwX9_26 (by decide) dX9_nodeLines_210 rfl rfl ?_
      refine x_iload_n (q := 214) dX9_nodeLines_213 rfl rfl ?_
      refine m_zald (q := 215) hM (n := 4) (by decide) dX9_nodeLines_214 rfl (by omega) ?_
      rw [(oc1).2.1, hTn, hU]
      refine x_if_ne (q := 218) 246 dX9_nodeLines_215 (by decide) rfl (fun hc215 => ?_) (fun hc215 => absurd hc215 (by decide))
      refine x_vret rfl dX9_nodeLines_246 (m_ret hM ⟨rfl, oc1, ?_⟩)
      simp only [nlP, h0, hR0, hB, hl, hU, decide_true, decide_false, Bool.not_true, Bool.not_false, Bool.and_true, Bool.true_and, Bool.and_false, Bool.false_and, Bool.and_self, if_true, if_false, reduceIte, Bool.false_eq_true]
      exact lc1
  · cases hB : c.Hi node <;> cases hg : c.Hg (2 * node) <;> cases hU : c.Tu node
    · refine x_iload_n (q := 1) dX9_nodeLines_0 rfl rfl ?_
      refine x_aload_n (q := 2) dX9_nodeLines_1 rfl rfl ?_
      refine m_get (q := 5) hM 3 fwX9_93 (by decide) dX9_nodeLines_2 rfl rfl ?_
      rw [(onlyL.rfl').1 3 (by decide), hm]
      refine xn_icmp_ge (q := 8) 12 dX9_nodeLines_5 (by decide) rfl (by omega) (by omega) (fun hc5 => absurd hc5 (by omega)) (fun hc5 => ?_)
      refine xn_iconst (q := 9) 1 dX9_nodeLines_8 rfl (by decide) ?_
      refine x_goto 13 dX9_nodeLines_9 (by decide) ?_
      refine x_istore_n (q := 14) (ls' := [(0, _), (1, _), (2, _)]) [1, 2, 0] dX9_nodeLines_13 rfl (by decide) rfl ?_
      refine xn_iconst (q := 15) 2 dX9_nodeLines_14 rfl (by decide) ?_
      refine x_iload_n (q := 16) dX9_nodeLines_15 rfl rfl ?_
      refine xn_imul (q := 17) dX9_nodeLines_16 rfl ?_
      refine xn_iconst (q := 18) 2 dX9_nodeLines_17 rfl (by decide) ?_
      refine x_isub (q := 19) dX9_nodeLines_18 rfl ?_
      refine x_istore_n (q := 20) (ls' := [(0, _), (1, _), (2, _), (3, _)]) [1, 2, 3, 0] dX9_nodeLines_19 rfl (by decide) rfl ?_
      refine x_iload_n (q := 21) dX9_nodeLines_20 rfl rfl ?_
      refine xn_if_le (q := 24) 52 dX9_nodeLines_21 (by decide) rfl (by omega) (fun hc21 => ?_) (fun hc21 => absurd hc21 (by omega))
      refine x_aload_n (q := 53) dX9_nodeLines_52 rfl rfl ?_
      refine m_get (q := 56) hM 7 fwX9_23 (by decide) dX9_nodeLines_53 rfl rfl ?_
      refine x_iload_n (q := 57) dX9_nodeLines_56 rfl rfl ?_
      refine m_zald (q := 58) hM (n := 4) (by decide) dX9_nodeLines_57 rfl (by omega) ?_
      rw [(onlyL.rfl').2.1, hHn, hB]
      refine x_if_eq (q := 61) 109 dX9_nodeLines_58 (by decide) rfl (fun hc58 => ?_) (fun hc58 => absurd (by decide) hc58)
      refine x_iload_n (q := 110) dX9_nodeLines_109 rfl rfl ?_
      refine xn_if_le (q := 113) 130 dX9_nodeLines_110 (by decide) rfl (by omega) (fun hc110 => ?_) (fun hc110 => absurd hc110 (by omega))
      refine xn_iconst (q := 131) 0 dX9_nodeLines_130 rfl (by decide) ?_
      refine x_istore (q := 133) (ls' := [(0, _), (1, _), (2, _), (3, _), (4, _)]) [1, 2, 3, 4, 0] dX9_nodeLines_131 rfl (by decide) rfl ?_
      refine x_iload_n (q := 134) dX9_nodeLines_133 rfl rfl ?_
      refine xn_if_eq (q := 137) 152 dX9_nodeLines_134 (by decide) rfl (by omega) (fun hc134 => absurd hc134 (by decide)) (fun hc134 => ?_)
      refine x_aload_n (q := 138) dX9_nodeLines_137 rfl rfl ?_
      refine m_get (q := 141) hM 6 fwX9_19 (by decide) dX9_nodeLines_138 rfl rfl ?_
      refine xn_iconst (q := 142) 2 dX9_nodeLines_141 rfl (by decide) ?_
      refine x_iload_n (q := 143) dX9_nodeLines_142 rfl rfl ?_
      refine xn_imul (q := 144) dX9_nodeLines_143 rfl ?_
      refine m_zald (q := 145) hM (n := 6) (by decide) dX9_nodeLines_144 rfl (by omega) ?_
      rw [(onlyL.rfl').2.1, hHr hR0, hg]
      refine x_if_ne (q := 148) 152 dX9_nodeLines_145 (by decide) rfl (fun hc145 => absurd hc145 (by decide)) (fun hc145 => ?_)
      refine xn_iconst (q := 149) 1 dX9_nodeLines_148 rfl (by decide) ?_
      refine x_goto 153 dX9_nodeLines_149 (by decide) ?_
      refine x_istore (q := 155) (ls' := [(0, _), (1, _), (2, _), (3, _), (4, _), (5, _)]) [1, 2, 3, 4, 5, 0] dX9_nodeLines_153 rfl (by decide) rfl ?_
      refine x_aload_n (q := 156) dX9_nodeLines_155 rfl rfl ?_
      refine m_get (q := 159) hM 8 fwX9_26 (by decide) dX9_nodeLines_156 rfl rfl ?_
      refine x_iload_n (q := 160) dX9_nodeLines_159 rfl rfl ?_
      refine m_zald (q := 161) hM (n := 4) (by decide) dX9_nodeLines_160 rfl (by omega) ?_
      rw [(onlyL.rfl').2.1, hTn, hU]
      refine x_if_eq (q := 164) 181 dX9_nodeLines_161 (by decide) rfl (fun hc161 => ?_) (fun hc161 => absurd (by decide) hc161)
      refine x_aload_n (q := 182) dX9_nodeLines_181 rfl rfl ?_
      refine m_get (q := 185) hM 8 fwX9_26 (by decide) dX9_nodeLines_182 rfl rfl ?_
      refine x_iload_n (q := 186) dX9_nodeLines_185 rfl rfl ?_
      refine m_zald (q := 187) hM (n := 4) (by decide) dX9_nodeLines_186 rfl (by omega) ?_
      rw [(onlyL.rfl').2.1, hTn, hU]
      refine x_if_eq (q := 190) 209 dX9_nodeLines_187 (by decide) rfl (fun hc187 => ?_) (fun hc187 => absurd (by decide) hc187)
      refine x_aload_n (q := 210) dX9_nodeLines_209 rfl rfl ?_
      refine m_get (q := 213) hM 8 fwX9_26 (by decide) dX9_nodeLines_210 rfl rfl ?_
      refine x_iload_n (q := 214) dX9_nodeLines_213 rfl rfl ?_
      refine m_zald (q := 215) hM (n := 4) (by decide) dX9_nodeLines_214 rfl (by omega) ?_
      rw [(onlyL.rfl').2.1, hTn, hU]
      refine x_if_ne (q := 218) 246 dX9_nodeLines_215 (by decide) rfl (fun hc215 => absurd hc215 (by decide)) (fun hc215 => ?_)
      refine x_iload (q := 220) dX9_nodeLines_218 rfl rfl ?_
      refine xn_if_eq (q := 223) 246 dX9_nodeLines_220 (by decide) rfl (by omega) (fun hc220 => ?_) (fun hc220 => absurd hc220 (by decide))
      refine x_vret rfl dX9_nodeLines_246 (m_ret hM ⟨rfl, onlyL.rfl', ?_⟩)
      simp only [nlP, h0, hR0, hB, hg, hU, decide_true, decide_false, Bool.not_true, Bool.not_false, Bool.and_true, Bool.true_and, Bool.and_false, Bool.false_and, Bool.and_self, if_true, if_false, reduceIte, Bool.false_eq_true]
      exact hR
    · refine x_iload_n (q := 1) dX9_nodeLines_0 rfl rfl ?_
      refine x_aload_n (q := 2) dX9_nodeLines_1 rfl rfl ?_
      refine m_get (q := 5) hM 3 fwX9_93 (by decide) dX9_nodeLines_2 rfl rfl ?_
      rw [(onlyL.rfl').1 3 (by decide), hm]
      refine xn_icmp_ge (q := 8) 12 dX9_nodeLines_5 (by decide) rfl (by omega) (by omega) (fun hc5 => absurd hc5 (by omega)) (fun hc5 => ?_)
      refine xn_iconst (q := 9) 1 dX9_nodeLines_8 rfl (by decide) ?_
      refine x_goto 13 dX9_nodeLines_9 (by decide) ?_
      refine x_istore_n (q := 14) (ls' := [(0, _), (1, _), (2, _)]) [1, 2, 0] dX9_nodeLines_13 rfl (by decide) rfl ?_
      refine xn_iconst (q := 15) 2 dX9_nodeLines_14 rfl (by decide) ?_
      refine x_iload_n (q := 16) dX9_nodeLines_15 rfl rfl ?_
      refine xn_imul (q := 17) dX9_nodeLines_16 rfl ?_
      refine xn_iconst (q := 18) 2 dX9_nodeLines_17 rfl (by decide) ?_
      refine x_isub (q := 19) dX9_nodeLines_18 rfl ?_
      refine x_istore_n (q := 20) (ls' := [(0, _), (1, _), (2, _), (3, _)]) [1, 2, 3, 0] dX9_nodeLines_19 rfl (by decide) rfl ?_
      refine x_iload_n (q := 21) dX9_nodeLines_20 rfl rfl ?_
      refine xn_if_le (q := 24) 52 dX9_nodeLines_21 (by decide) rfl (by omega) (fun hc21 => ?_) (fun hc21 => absurd hc21 (by omega))
      refine x_aload_n (q := 53) dX9_nodeLines_52 rfl rfl ?_
      refine m_get (q := 56) hM 7 fwX9_23 (by decide) dX9_nodeLines_53 rfl rfl ?_
      refine x_iload_n (q := 57) dX9_nodeLines_56 rfl rfl ?_
      refine m_zald (q := 58) hM (n := 4) (by decide) dX9_nodeLines_57 rfl (by omega) ?_
      rw [(onlyL.rfl').2.1, hHn, hB]
      refine x_if_eq (q := 61) 109 dX9_nodeLines_58 (by decide) rfl (fun hc58 => ?_) (fun hc58 => absurd (by decide) hc58)
      refine x_iload_n (q := 110) dX9_nodeLines_109 rfl rfl ?_
      refine xn_if_le (q := 113) 130 dX9_nodeLines_110 (by decide) rfl (by omega) (fun hc110 => ?_) (fun hc110 => absurd hc110 (by omega))
      refine xn_iconst (q := 131) 0 dX9_nodeLines_130 rfl (by decide) ?_
      refine x_istore (q := 133) (ls' := [(0, _), (1, _), (2, _), (3, _), (4, _)]) [1, 2, 3, 4, 0] dX9_nodeLines_131 rfl (by decide) rfl ?_
      refine x_iload_n (q := 134) dX9_nodeLines_133 rfl rfl ?_
      refine xn_if_eq (q := 137) 152 dX9_nodeLines_134 (by decide) rfl (by omega) (fun hc134 => absurd hc134 (by decide)) (fun hc134 => ?_)
      refine x_aload_n (q := 138) dX9_nodeLines_137 rfl rfl ?_
      refine m_get (q := 141) hM 6 fwX9_19 (by decide) dX9_nodeLines_138 rfl rfl ?_
      refine xn_iconst (q := 142) 2 dX9_nodeLines_141 rfl (by decide) ?_
      refine x_iload_n (q := 143) dX9_nodeLines_142 rfl rfl ?_
      refine xn_imul (q := 144) dX9_nodeLines_143 rfl ?_
      refine m_zald (q := 145) hM (n := 6) (by decide) dX9_nodeLines_144 rfl (by omega) ?_
      rw [(onlyL.rfl').2.1, hHr hR0, hg]
      refine x_if_ne (q := 148) 152 dX9_nodeLines_145 (by decide) rfl (fun hc145 => absurd hc145 (by decide)) (fun hc145 => ?_)
      refine xn_iconst (q := 149) 1 dX9_nodeLines_148 rfl (by decide) ?_
      refine x_goto 153 dX9_nodeLines_149 (by decide) ?_
      refine x_istore (q := 155) (ls' := [(0, _), (1, _), (2, _), (3, _), (4, _), (5, _)]) [1, 2, 3, 4, 5, 0] dX9_nodeLines_153 rfl (by decide) rfl ?_
      refine x_aload_n (q := 156) dX9_nodeLines_155 rfl rfl ?_
      refine m_get (q := 159) hM 8 fwX9_26 (by decide) dX9_nodeLines_156 rfl rfl ?_
      refine x_iload_n (q := 160) dX9_nodeLines_159 rfl rfl ?_
      refine m_zald (q := 161) hM (n := 4) (by decide) dX9_nodeLines_160 rfl (by omega) ?_
      rw [(onlyL.rfl').2.1, hTn, hU]
      refine x_if_eq (q := 164) 181 dX9_nodeLines_161 (by decide) rfl (fun hc161 => absurd hc161 (by decide)) (fun hc161 => ?_)
      refine x_iload (q := 166) dX9_nodeLines_164 rfl rfl ?_
      refine xn_if_eq (q := 169) 181 dX9_nodeLines_166 (by decide) rfl (by omega) (fun hc166 => ?_) (fun hc166 => absurd hc166 (by decide))
      refine x_aload_n (q := 182) dX9_nodeLines_181 rfl rfl ?_
      refine m_get (q := 185) hM 8 fwX9_26 (by decide) dX9_nodeLines_182 rfl rfl ?_
      refine x_iload_n (q := 186) dX9_nodeLines_185 rfl rfl ?_
      refine m_zald (q := 187) hM (n := 4) (by decide) dX9_nodeLines_186 rfl (by omega) ?_
      rw [(onlyL.rfl').2.1, hTn, hU]
      refine x_if_eq (q := 190) 209 dX9_nodeLines_187 (by decide) rfl (fun hc187 => absurd hc187 (by decide)) (fun hc187 => ?_)
      refine x_iload (q := 192) dX9_nodeLines_190 rfl rfl ?_
      refine xn_if_eq (q := 195) 209 dX9_nodeLines_192 (by decide) rfl (by omega) (fun hc192 => absurd hc192 (by decide)) (fun hc192 => ?_)
      refine x_aload_n (q := 196) dX9_nodeLines_195 rfl rfl ?_
      refine xn_iconst (q := 197) 2 dX9_nodeLines_196 rfl (by decide) ?_
      refine x_iload_n (q := 198) dX9_nodeLines_197 rfl rfl ?_
      refine xn_imul (q := 199) dX9_nodeLines_198 rfl ?_
      refine xn_iconst (q := 200) 1 dX9_nodeLines_199 rfl (by decide) ?_
      refine xn_iadd (q := 201) dX9_nodeLines_200 rfl ?_
      refine xn_lconst (q := 202) 1 dX9_nodeLines_201 rfl (by decide) ?_
      refine xn_iconst (q := 203) 0 dX9_nodeLines_202 rfl (by decide) ?_
      refine xn_lconst (q := 204) 0 dX9_nodeLines_203 rfl (by decide) ?_
      refine xn_iconst (q := 205) 0 dX9_nodeLines_204 rfl (by decide) ?_
      refine xn_lconst (q := 206) 0 dX9_nodeLines_205 rfl (by decide) ?_
      refine m_call (q := 209) (As := [_, _, _, _, _, _]) hM imX9_line ivX9_line ilX9_line mwX9_234 xciX9 dX9_nodeLines_206 rfl rfl rfl (Nat.le_of_ble_eq_true rfl) ?_
      refine (c_line G l o as M0 N S d σ (2 * node + 1) (0) (0) _ _ _ (1) (0) (0) (lN_i' _) (lN_i' _) (lN_i' _) (by omega) (by omega) (by omega) (n) (by omega) _ hR).mono (fun x σc1 hp => ?_)
      obtain ⟨rfl, qc1, lc1⟩ := hp
      intro M hM
      have oc1 : onlyL σ σc1 := (onlyL.rfl').trans qc1
      show xX G l _ (d + 1) _ _ _ [] M N S
      refine x_aload_n (q := 210) dX9_nodeLines_209 rfl rfl ?_
      refine m_get (q := 213) hM 8 fwX9_26 (by decide) dX9_nodeLines_210 rfl rfl ?_
      refine x_iload_n (q := 214) dX9_nodeLines_213 rfl rfl ?_
      refine m_zald (q := 215) hM (n := 4) (by decide) dX9_nodeLines_214 rfl (by omega) ?_
      rw [(oc1).2.1, hTn, hU]
      refine x_if_ne (q := 218) 246 dX9_nodeLines_215 (by decide) rfl (fun hc215 => ?_) (fun hc215 => absurd hc215 (by decide))
      refine x_vret rfl dX9_nodeLines_246 (m_ret hM ⟨rfl, oc1, ?_⟩)
      simp only [nlP, h0, hR0, hB, hg, hU, decide_true, decide_false, Bool.not_true, Bool.not_false, Bool.and_true, Bool.true_and, Bool.and_false, Bool.false_and, Bool.and_self, if_true, if_false, reduceIte, Bool.false_eq_true]
      exact lc1
    · refine x_iload_n (q := 1) dX9_nodeLines_0 rfl rfl ?_
      refine x_aload_n (q := 2) dX9_nodeLines_1 rfl rfl ?_
      refine m_get (q := 5) hM 3 fwX9_93 (by decide) dX9_nodeLines_2 rfl rfl ?_
      rw [(onlyL.rfl').1 3 (by decide), hm]
      refine xn_icmp_ge (q := 8) 12 dX9_nodeLines_5 (by decide) rfl (by omega) (by omega) (fun hc5 => absurd hc5 (by omega)) (fun hc5 => ?_)
      refine xn_iconst (q := 9) 1 dX9_nodeLines_8 rfl (by decide) ?_
      refine x_goto 13 dX9_nodeLines_9 (by decide) ?_
      refine x_istore_n (q := 14) (ls' := [(0, _), (1, _), (2, _)]) [1, 2, 0] dX9_nodeLines_13 rfl (by decide) rfl ?_
      refine xn_iconst (q := 15) 2 dX9_nodeLines_14 rfl (by decide) ?_
      refine x_iload_n (q := 16) dX9_nodeLines_15 rfl rfl ?_
      refine xn_imul (q := 17) dX9_nodeLines_16 rfl ?_
      refine xn_iconst (q := 18) 2 dX9_nodeLines_17 rfl (by decide) ?_
      refine x_isub (q := 19) dX9_nodeLines_18 rfl ?_
      refine x_istore_n (q := 20) (ls' := [(0, _), (1, _), (2, _), (3, _)]) [1, 2, 3, 0] dX9_nodeLines_19 rfl (by decide) rfl ?_
      refine x_iload_n (q := 21) dX9_nodeLines_20 rfl rfl ?_
      refine xn_if_le (q := 24) 52 dX9_nodeLines_21 (by decide) rfl (by omega) (fun hc21 => ?_) (fun hc21 => absurd hc21 (by omega))
      refine x_aload_n (q := 53) dX9_nodeLines_52 rfl rfl ?_
      refine m_get (q := 56) hM 7 fwX9_23 (by decide) dX9_nodeLines_53 rfl rfl ?_
      refine x_iload_n (q := 57) dX9_nodeLines_56 rfl rfl ?_
      refine m_zald (q := 58) hM (n := 4) (by decide) dX9_nodeLines_57 rfl (by omega) ?_
      rw [(onlyL.rfl').2.1, hHn, hB]
      refine x_if_eq (q := 61) 109 dX9_nodeLines_58 (by decide) rfl (fun hc58 => ?_) (fun hc58 => absurd (by decide) hc58)
      refine x_iload_n (q := 110) dX9_nodeLines_109 rfl rfl ?_
      refine xn_if_le (q := 113) 130 dX9_nodeLines_110 (by decide) rfl (by omega) (fun hc110 => ?_) (fun hc110 => absurd hc110 (by omega))
      refine xn_iconst (q := 131) 0 dX9_nodeLines_130 rfl (by decide) ?_
      refine x_istore (q := 133) (ls' := [(0, _), (1, _), (2, _), (3, _), (4, _)]) [1, 2, 3, 4, 0] dX9_nodeLines_131 rfl (by decide) rfl ?_
      refine x_iload_n (q := 134) dX9_nodeLines_133 rfl rfl ?_
      refine xn_if_eq (q := 137) 152 dX9_nodeLines_134 (by decide) rfl (by omega) (fun hc134 => absurd hc134 (by decide)) (fun hc134 => ?_)
      refine x_aload_n (q := 138) dX9_nodeLines_137 rfl rfl ?_
      refine m_get (q := 141) hM 6 fwX9_19 (by decide) dX9_nodeLines_138 rfl rfl ?_
      refine xn_iconst (q := 142) 2 dX9_nodeLines_141 rfl (by decide) ?_
      refine x_iload_n (q := 143) dX9_nodeLines_142 rfl rfl ?_
      refine xn_imul (q := 144) dX9_nodeLines_143 rfl ?_
      refine m_zald (q := 145) hM (n := 6) (by decide) dX9_nodeLines_144 rfl (by omega) ?_
      rw [(onlyL.rfl').2.1, hHr hR0, hg]
      refine x_if_ne (q := 148) 152 dX9_nodeLines_145 (by decide) rfl (fun hc145 => ?_) (fun hc145 => absurd hc145 (by decide))
      refine xn_iconst (q := 153) 0 dX9_nodeLines_152 rfl (by decide) ?_
      refine x_istore (q := 155) (ls' := [(0, _), (1, _), (2, _), (3, _), (4, _), (5, _)]) [1, 2, 3, 4, 5, 0] dX9_nodeLines_153 rfl (by decide) rfl ?_
      refine x_aload_n (q := 156) dX9_nodeLines_155 rfl rfl ?_
      refine m_get (q := 159) hM 8 fwX9_26 (by decide) dX9_nodeLines_156 rfl rfl ?_
      refine x_iload_n (q := 160) dX9_nodeLines_159 rfl rfl ?_
      refine m_zald (q := 161) hM (n := 4) (by decide) dX9_nodeLines_160 rfl (by omega) ?_
      rw [(onlyL.rfl').2.1, hTn, hU]
      refine x_if_eq (q := 164) 181 dX9_nodeLines_161 (by decide) rfl (fun hc161 => ?_) (fun hc161 => absurd (by decide) hc161)
      refine x_aload_n (q := 182) dX9_nodeLines_181 rfl rfl ?_
      refine m_get (q := 185) hM 8 fwX9_26 (by decide) dX9_nodeLines_182 rfl rfl ?_
      refine x_iload_n (q := 186) dX9_nodeLines_185 rfl rfl ?_
      refine m_zald (q := 187) hM (n := 4) (by decide) dX9_nodeLines_186 rfl (by omega) ?_
      rw [(onlyL.rfl').2.1, hTn, hU]
      refine x_if_eq (q := 190) 209 dX9_nodeLines_187 (by decide) rfl (fun hc187 => ?_) (fun hc187 => absurd (by decide) hc187)
      refine x_aload_n (q := 210) dX9_nodeLines_209 rfl rfl ?_
      refine m_get (q := 213) hM 8 fwX9_26 (by decide) dX9_nodeLines_210 rfl rfl ?_
      refine x_iload_n (q := 214) dX9_nodeLines_213 rfl rfl ?_
      refine m_zald (q := 215) hM (n := 4) (by decide) dX9_nodeLines_214 rfl (by omega) ?_
      rw [(onlyL.rfl').2.1, hTn, hU]
      refine x_if_ne (q := 218) 246 dX9_nodeLines_215 (by decide) rfl (fun hc215 => absurd hc215 (by decide)) (fun hc215 => ?_)
      refine x_iload (q := 220) dX9_nodeLines_218 rfl rfl ?_
      refine xn_if_eq (q := 223) 246 dX9_nodeLines_220 (by decide) rfl (by omega) (fun hc220 => ?_) (fun hc220 => absurd hc220 (by decide))
      refine x_vret rfl dX9_nodeLines_246 (m_ret hM ⟨rfl, onlyL.rfl', ?_⟩)
      simp only [nlP, h0, hR0, hB, hg, hU, decide_true, decide_false, Bool.not_true, Bool.not_false, Bool.and_true, Bool.true_and, Bool.and_false, Bool.false_and, Bool.and_self, if_true, if_false, reduceIte, Bool.false_eq_true]
      exact hR
    · refine x_iload_n (q := 1) dX9_nodeLines_0 rfl rfl ?_
      refine x_aload_n (q := 2) dX9_nodeLines_1 rfl rfl ?_
      refine m_get (q := 5) hM 3 fwX9_93 (by decide) dX9_nodeLines_2 rfl rfl ?_
      rw [(onlyL.rfl').1 3 (by decide), hm]
      refine xn_icmp_ge (q := 8) 12 dX9_nodeLines_5 (by decide) rfl (by omega) (by omega) (fun hc5 => absurd hc5 (by omega)) (fun hc5 => ?_)
      refine xn_iconst (q := 9) 1 dX9_nodeLines_8 rfl (by decide) ?_
      refine x_goto 13 dX9_nodeLines_9 (by decide) ?_
      refine x_istore_n (q := 14) (ls' := [(0, _), (1, _), (2, _)]) [1, 2, 0] dX9_nodeLines_13 rfl (by decide) rfl ?_
      refine xn_iconst (q := 15) 2 dX9_nodeLines_14 rfl (by decide) ?_
      refine x_iload_n (q := 16) dX9_nodeLines_15 rfl rfl ?_
      refine xn_imul (q := 17) dX9_nodeLines_16 rfl ?_
      refine xn_iconst (q := 18) 2 dX9_nodeLines_17 rfl (by decide) ?_
      refine x_isub (q := 19) dX9_nodeLines_18 rfl ?_
      refine x_istore_n (q := 20) (ls' := [(0, _), (1, _), (2, _), (3, _)]) [1, 2, 3, 0] dX9_nodeLines_19 rfl (by decide) rfl ?_
      refine x_iload_n (q := 21) dX9_nodeLines_20 rfl rfl ?_
      refine xn_if_le (q := 24) 52 dX9_nodeLines_21 (by decide) rfl (by omega) (fun hc21 => ?_) (fun hc21 => absurd hc21 (by omega))
      refine x_aload_n (q := 53) dX9_nodeLines_52 rfl rfl ?_
      refine m_get (q := 56) hM 7 fwX9_23 (by decide) dX9_nodeLines_53 rfl rfl ?_
      refine x_iload_n (q := 57) dX9_nodeLines_56 rfl rfl ?_
      refine m_zald (q := 58) hM (n := 4) (by decide) dX9_nodeLines_57 rfl (by omega) ?_
      rw [(onlyL.rfl').2.1, hHn, hB]
      refine x_if_eq (q := 61) 109 dX9_nodeLines_58 (by decide) rfl (fun hc58 => ?_) (fun hc58 => absurd (by decide) hc58)
      refine x_iload_n (q := 110) dX9_nodeLines_109 rfl rfl ?_
      refine xn_if_le (q := 113) 130 dX9_nodeLines_110 (by decide) rfl (by omega) (fun hc110 => ?_) (fun hc110 => absurd hc110 (by omega))
      refine xn_iconst (q := 131) 0 dX9_nodeLines_130 rfl (by decide) ?_
      refine x_istore (q := 133) (ls' := [(0, _), (1, _), (2, _), (3, _), (4, _)]) [1, 2, 3, 4, 0] dX9_nodeLines_131 rfl (by decide) rfl ?_
      refine x_iload_n (q := 134) dX9_nodeLines_133 rfl rfl ?_
      refine xn_if_eq (q := 137) 152 dX9_nodeLines_134 (by decide) rfl (by omega) (fun hc134 => absurd hc134 (by decide)) (fun hc134 => ?_)
      refine x_aload_n (q := 138) dX9_nodeLines_137 rfl rfl ?_
      refine m_get (q := 141) hM 6 fwX9_19 (by decide) dX9_nodeLines_138 rfl rfl ?_
      refine xn_iconst (q := 142) 2 dX9_nodeLines_141 rfl (by decide) ?_
      refine x_iload_n (q := 143) dX9_nodeLines_142 rfl rfl ?_
      refine xn_imul (q := 144) dX9_nodeLines_143 rfl ?_
      refine m_zald (q := 145) hM (n := 6) (by decide) dX9_nodeLines_144 rfl (by omega) ?_
      rw [(onlyL.rfl').2.1, hHr hR0, hg]
      refine x_if_ne (q := 148) 152 dX9_nodeLines_145 (by decide) rfl (fun hc145 => ?_) (fun hc145 => absurd hc145 (by decide))
      refine xn_iconst (q := 153) 0 dX9_nodeLines_152 rfl (by decide) ?_
      refine x_istore (q := 155) (ls' := [(0, _), (1, _), (2, _), (3, _), (4, _), (5, _)]) [1, 2, 3, 4, 5, 0] dX9_nodeLines_153 rfl (by decide) rfl ?_
      refine x_aload_n (q := 156) dX9_nodeLines_155 rfl rfl ?_
      refine m_get (q := 159) hM 8 fwX9_26 (by decide) dX9_nodeLines_156 rfl rfl ?_
      refine x_iload_n (q := 160) dX9_nodeLines_159 rfl rfl ?_
      refine m_zald (q := 161) hM (n := 4) (by decide) dX9_nodeLines_160 rfl (by omega) ?_
      rw [(onlyL.rfl').2.1, hTn, hU]
      refine x_if_eq (q := 164) 181 dX9_nodeLines_161 (by decide) rfl (fun hc161 => absurd hc161 (by decide)) (fun hc161 => ?_)
      refine x_iload (q := 166) dX9_nodeLines_164 rfl rfl ?_
      refine xn_if_eq (q := 169) 181 dX9_nodeLines_166 (by decide) rfl (by omega) (fun hc166 => ?_) (fun hc166 => absurd hc166 (by decide))
      refine x_aload_n (q := 182) dX9_nodeLines_181 rfl rfl ?_
      refine m_get (q := 185) hM 8 fwX9_26 (by decide) dX9_nodeLines_182 rfl rfl ?_
      refine x_iload_n (q := 186) dX9_nodeLines_185 rfl rfl ?_
      refine m_zald (q := 187) hM (n := 4) (by decide) dX9_nodeLines_186 rfl (by omega) ?_
      rw [(onlyL.rfl').2.1, hTn, hU]
      refine x_if_eq (q := 190) 209 dX9_nodeLines_187 (by decide) rfl (fun hc187 => absurd hc187 (by decide)) (fun hc187 => ?_)
      refine x_iload (q := 192) dX9_nodeLines_190 rfl rfl ?_
      refine xn_if_eq (q := 195) 209 dX9_nodeLines_192 (by decide) rfl (by omega) (fun hc192 => ?_) (fun hc192 => absurd hc192 (by decide))
      refine x_aload_n (q := 210) dX9_nodeLines_209 rfl rfl ?_
      refine m_get (q := 213) hM 8 fwX9_26 (by decide) dX9_nodeLines_210 rfl rfl ?_
      refine x_iload_n (q := 214) dX9_nodeLines_213 rfl rfl ?_
      refine m_zald (q := 215) hM (n := 4) (by decide) dX9_nodeLines_214 rfl (by omega) ?_
      rw [(onlyL.rfl').2.1, hTn, hU]
      refine x_if_ne (q := 218) 246 dX9_nodeLines_215 (by decide) rfl (fun hc215 => ?_) (fun hc215 => absurd hc215 (by decide))
      refine x_vret rfl dX9_nodeLines_246 (m_ret hM ⟨rfl, onlyL.rfl', ?_⟩)
      simp only [nlP, h0, hR0, hB, hg, hU, decide_true, decide_false, Bool.not_true, Bool.not_false, Bool.and_true, Bool.true_and, Bool.and_false, Bool.false_and, Bool.and_self, if_true, if_false, reduceIte, Bool.false_eq_true]
      exact hR
    · refine x_iload_n (q := 1) dX9_nodeLines_0 rfl rfl ?_
      refine x_aload_n (q := 2) dX9_nodeLines_1 rfl rfl ?_
      refine m_get (q := 5) hM 3 fwX9_93 (by decide) dX9_nodeLines_2 rfl rfl ?_
      rw [(onlyL.rfl').1 3 (by decide), hm]
      refine xn_icmp_ge (q := 8) 12 dX9_nodeLines_5 (by decide) rfl (by omega) (by omega) (fun hc5 => absurd hc5 (by omega)) (fun hc5 => ?_)
      refine xn_iconst (q := 9) 1 dX9_nodeLines_8 rfl (by decide) ?_
      refine x_goto 13 dX9_nodeLines_9 (by decide) ?_
      refine x_istore_n (q := 14) (ls' := [(0, _), (1, _), (2, _)]) [1, 2, 0] dX9_nodeLines_13 rfl (by decide) rfl ?_
      refine xn_iconst (q := 15) 2 dX9_nodeLines_14 rfl (by decide) ?_
      refine x_iload_n (q := 16) dX9_nodeLines_15 rfl rfl ?_
      refine xn_imul (q := 17) dX9_nodeLines_16 rfl ?_
      refine xn_iconst (q := 18) 2 dX9_nodeLines_17 rfl (by decide) ?_
      refine x_isub (q := 19) dX9_nodeLines_18 rfl ?_
      refine x_istore_n (q := 20) (ls' := [(0, _), (1, _), (2, _), (3, _)]) [1, 2, 3, 0] dX9_nodeLines_19 rfl (by decide) rfl ?_
      refine x_iload_n (q := 21) dX9_nodeLines_20 rfl rfl ?_
      refine xn_if_le (q := 24) 52 dX9_nodeLines_21 (by decide) rfl (by omega) (fun hc21 => ?_) (fun hc21 => absurd hc21 (by omega))
      refine x_aload_n (q := 53) dX9_nodeLines_52 rfl rfl ?_
      refine m_get (q := 56) hM 7 fwX9_23 (by decide) dX9_nodeLines_53 rfl rfl ?_
      refine x_iload_n (q := 57) dX9_nodeLines_56 rfl rfl ?_
      refine m_zald (q := 58) hM (n := 4) (by decide) dX9_nodeLines_57 rfl (by omega) ?_
      rw [(onlyL.rfl').2.1, hHn, hB]
      refine x_if_eq (q := 61) 109 dX9_nodeLines_58 (by decide) rfl (fun hc58 => absurd hc58 (by decide)) (fun hc58 => ?_)
      refine x_aload_n (q := 62) dX9_nodeLines_61 rfl rfl ?_
      refine x_iload_n (q := 63) dX9_nodeLines_62 rfl rfl ?_
      refine xn_if_eq (q := 66) 72 dX9_nodeLines_63 (by decide) rfl (by omega) (fun hc63 => absurd hc63 (by decide)) (fun hc63 => ?_)
      refine xn_iconst (q := 67) 2 dX9_nodeLines_66 rfl (by decide) ?_
      refine x_iload_n (q := 68) dX9_nodeLines_67 rfl rfl ?_
      refine xn_imul (q := 69) dX9_nodeLines_68 rfl ?_
      refine x_goto 73 dX9_nodeLines_69 (by decide) ?_
      refine xn_lconst (q := 74) 1 dX9_nodeLines_73 rfl (by decide) ?_
      refine x_iload_n (q := 75) dX9_nodeLines_74 rfl rfl ?_
      refine xn_if_eq (q := 78) 84 dX9_nodeLines_75 (by decide) rfl (by omega) (fun hc75 => absurd hc75 (by decide)) (fun hc75 => ?_)
      refine xn_iconst (q := 79) 2 dX9_nodeLines_78 rfl (by decide) ?_
      refine x_iload_n (q := 80) dX9_nodeLines_79 rfl rfl ?_
      refine xn_imul (q := 81) dX9_nodeLines_80 rfl ?_
      refine x_goto 87 dX9_nodeLines_81 (by decide) ?_
      refine x_iload_n (q := 88) dX9_nodeLines_87 rfl rfl ?_
      refine xn_if_eq (q := 91) 95 dX9_nodeLines_88 (by decide) rfl (by omega) (fun hc88 => absurd hc88 (by decide)) (fun hc88 => ?_)
      refine xn_lconst (q := 92) 0 dX9_nodeLines_91 rfl (by decide) ?_
      refine x_goto 104 dX9_nodeLines_92 (by decide) ?_
      refine xn_iconst (q := 105) 0 dX9_nodeLines_104 rfl (by decide) ?_
      refine xn_lconst (q := 106) 0 dX9_nodeLines_105 rfl (by decide) ?_
      refine m_call (q := 109) (As := [_, _, _, _, _, _]) hM imX9_line ivX9_line ilX9_line mwX9_234 xciX9 dX9_nodeLines_106 rfl rfl rfl (Nat.le_of_ble_eq_true rfl) ?_
      refine (c_line G l o as M0 N S d σ (2 * node) (2 * node) (0) _ _ _ (1) (0) (0) (lN_i' _) (lN_i' _) (lN_i' _) (by omega) (by omega) (by omega) (n) (by omega) _ hR).mono (fun x σc1 hp => ?_)
      obtain ⟨rfl, qc1, lc1⟩ := hp
      intro M hM
      have oc1 : onlyL σ σc1 := (onlyL.rfl').trans qc1
      show xX G l _ (d + 1) _ _ _ [] M N S
      refine x_iload_n (q := 110) dX9_nodeLines_109 rfl rfl ?_
      refine xn_if_le (q := 113) 130 dX9_nodeLines_110 (by decide) rfl (by omega) (fun hc110 => ?_) (fun hc110 => absurd hc110 (by omega))
      refine xn_iconst (q := 131) 0 dX9_nodeLines_130 rfl (by decide) ?_
      refine x_istore (q := 133) (ls' := [(0, _), (1, _), (2, _), (3, _), (4, _)]) [1, 2, 3, 4, 0] dX9_nodeLines_131 rfl (by decide) rfl ?_
      refine x_iload_n (q := 134) dX9_nodeLines_133 rfl rfl ?_
      refine xn_if_eq (q := 137) 152 dX9_nodeLines_134 (by decide) rfl (by omega) (fun hc134 => absurd hc134 (by decide)) (fun hc134 => ?_)
      refine x_aload_n (q := 138) dX9_nodeLines_137 rfl rfl ?_
      refine m_get (q := 141) hM 6 fwX9_19 (by decide) dX9_nodeLines_138 rfl rfl ?_
      refine xn_iconst (q := 142) 2 dX9_nodeLines_141 rfl (by decide) ?_
      refine x_iload_n (q := 143) dX9_nodeLines_142 rfl rfl ?_
      refine xn_imul (q := 144) dX9_nodeLines_143 rfl ?_
      refine m_zald (q := 145) hM (n := 6) (by decide) dX9_nodeLines_144 rfl (by omega) ?_
      rw [(oc1).2.1, hHr hR0, hg]
      refine x_if_ne (q := 148) 152 dX9_nodeLines_145 (by decide) rfl (fun hc145 => absurd hc145 (by decide)) (fun hc145 => ?_)
      refine xn_iconst (q := 149) 1 dX9_nodeLines_148 rfl (by decide) ?_
      refine x_goto 153 dX9_nodeLines_149 (by decide) ?_
      refine x_istore (q := 155) (ls' := [(0, _), (1, _), (2, _), (3, _), (4, _), (5, _)]) [1, 2, 3, 4, 5, 0] dX9_nodeLines_153 rfl (by decide) rfl ?_
      refine x_aload_n (q := 156) dX9_nodeLines_155 rfl rfl ?_
      refine m_get (q := 159) hM 8 fwX9_26 (by decide) dX9_nodeLines_156 rfl rfl ?_
      refine x_iload_n (q := 160) dX9_nodeLines_159 rfl rfl ?_
      refine m_zald (q := 161) hM (n := 4) (by decide) dX9_nodeLines_160 rfl (by omega) ?_
      rw [(oc1).2.1, hTn, hU]
      refine x_if_eq (q := 164) 181 dX9_nodeLines_161 (by decide) rfl (fun hc161 => ?_) (fun hc161 => absurd (by decide) hc161)
      refine x_aload_n (q := 182) dX9_nodeLines_181 rfl rfl ?_
      refine m_get (q := 185) hM 8 fwX9_26 (by decide) dX9_nodeLines_182 rfl rfl ?_
      refine x_iload_n (q := 186) dX9_nodeLines_185 rfl rfl ?_
      refine m_zald (q := 187) hM (n := 4) (by decide) dX9_nodeLines_186 rfl (by omega) ?_
      rw [(oc1).2.1, hTn, hU]
      refine x_if_eq (q := 190) 209 dX9_nodeLines_187 (by decide) rfl (fun hc187 => ?_) (fun hc187 => absurd (by decide) hc187)
      refine x_aload_n (q := 210) dX9_nodeLines_209 rfl rfl ?_
      refine m_get (q := 213) hM 8 fwX9_26 (by decide) dX9_nodeLines_210 rfl rfl ?_
      refine x_iload_n (q := 214) dX9_nodeLines_213 rfl rfl ?_
      refine m_zald (q := 215) hM (n := 4) (by decide) dX9_nodeLines_214 rfl (by omega) ?_
      rw [(oc1).2.1, hTn, hU]
      refine x_if_ne (q := 218) 246 dX9_nodeLines_215 (by decide) rfl (fun hc215 => absurd hc215 (by decide)) (fun hc215 => ?_)
      refine x_iload (q := 220) dX9_nodeLines_218 rfl rfl ?_
      refine xn_if_eq (q := 223) 246 dX9_nodeLines_220 (by decide) rfl (by omega) (fun hc220 => ?_) (fun hc220 => absurd hc220 (by decide))
      refine x_vret rfl dX9_nodeLines_246 (m_ret hM ⟨rfl, oc1, ?_⟩)
      simp only [nlP, h0, hR0, hB, hg, hU, decide_true, decide_false, Bool.not_true, Bool.not_false, Bool.and_true, Bool.true_and, Bool.and_false, Bool.false_and, Bool.and_self, if_true, if_false, reduceIte, Bool.false_eq_true]
      exact lc1
    · refine x_iload_n (q := 1) dX9_nodeLines_0 rfl rfl ?_
      refine x_aload_n (q := 2) dX9_nodeLines_1 rfl rfl ?_
      refine m_get (q := 5) hM 3 fwX9_93 (by decide) dX9_nodeLines_2 rfl rfl ?_
      rw [(onlyL.rfl').1 3 (by decide), hm]
      refine xn_icmp_ge (q := 8) 12 dX9_nodeLines_5 (by decide) rfl (by omega) (by omega) (fun hc5 => absurd hc5 (by omega)) (fun hc5 => ?_)
      refine xn_iconst (q := 9) 1 dX9_nodeLines_8 rfl (by decide) ?_
      refine x_goto 13 dX9_nodeLines_9 (by decide) ?_
      refine x_istore_n (q := 14) (ls' := [(0, _), (1, _), (2, _)]) [1, 2, 0] dX9_nodeLines_13 rfl (by decide) rfl ?_
      refine xn_iconst (q := 15) 2 dX9_nodeLines_14 rfl (by decide) ?_
      refine x_iload_n (q := 16) dX9_nodeLines_15 rfl rfl ?_
      refine xn_imul (q := 17) dX9_nodeLines_16 rfl ?_
      refine xn_iconst (q := 18) 2 dX9_nodeLines_17 rfl (by decide) ?_
      refine x_isub (q := 19) dX9_nodeLines_18 rfl ?_
      refine x_istore_n (q := 20) (ls' := [(0, _), (1, _), (2, _), (3, _)]) [1, 2, 3, 0] dX9_nodeLines_19 rfl (by decide) rfl ?_
      refine x_iload_n (q := 21) dX9_nodeLines_20 rfl rfl ?_
      refine xn_if_le (q := 24) 52 dX9_nodeLines_21 (by decide) rfl (by omega) (fun hc21 => ?_) (fun hc21 => absurd hc21 (by omega))
      refine x_aload_n (q := 53) dX9_nodeLines_52 rfl rfl ?_
      refine m_get (q := 56) hM 7 fwX9_23 (by decide) dX9_nodeLines_53 rfl rfl ?_
      refine x_iload_n (q := 57) dX9_nodeLines_56 rfl rfl ?_
      refine m_zald (q := 58) hM (n := 4) (by decide) dX9_nodeLines_57 rfl (by omega) ?_
      rw [(onlyL.rfl').2.1, hHn, hB]
      refine x_if_eq (q := 61) 109 dX9_nodeLines_58 (by decide) rfl (fun hc58 => absurd hc58 (by decide)) (fun hc58 => ?_)
      refine x_aload_n (q := 62) dX9_nodeLines_61 rfl rfl ?_
      refine x_iload_n (q := 63) dX9_nodeLines_62 rfl rfl ?_
      refine xn_if_eq (q := 66) 72 dX9_nodeLines_63 (by decide) rfl (by omega) (fun hc63 => absurd hc63 (by decide)) (fun hc63 => ?_)
      refine xn_iconst (q := 67) 2 dX9_nodeLines_66 rfl (by decide) ?_
      refine x_iload_n (q := 68) dX9_nodeLines_67 rfl rfl ?_
      refine xn_imul (q := 69) dX9_nodeLines_68 rfl ?_
      refine x_goto 73 dX9_nodeLines_69 (by decide) ?_
      refine xn_lconst (q := 74) 1 dX9_nodeLines_73 rfl (by decide) ?_
      refine x_iload_n (q := 75) dX9_nodeLines_74 rfl rfl ?_
      refine xn_if_eq (q := 78) 84 dX9_nodeLines_75 (by decide) rfl (by omega) (fun hc75 => absurd hc75 (by decide)) (fun hc75 => ?_)
      refine xn_iconst (q := 79) 2 dX9_nodeLines_78 rfl (by decide) ?_
      refine x_iload_n (q := 80) dX9_nodeLines_79 rfl rfl ?_
      refine xn_imul (q := 81) dX9_nodeLines_80 rfl ?_
      refine x_goto 87 dX9_nodeLines_81 (by decide) ?_
      refine x_iload_n (q := 88) dX9_nodeLines_87 rfl rfl ?_
      refine xn_if_eq (q := 91) 95 dX9_nodeLines_88 (by decide) rfl (by omega) (fun hc88 => absurd hc88 (by decide)) (fun hc88 => ?_)
      refine xn_lconst (q := 92) 0 dX9_nodeLines_91 rfl (by decide) ?_
      refine x_goto 104 dX9_nodeLines_92 (by decide) ?_
      refine xn_iconst (q := 105) 0 dX9_nodeLines_104 rfl (by decide) ?_
      refine xn_lconst (q := 106) 0 dX9_nodeLines_105 rfl (by decide) ?_
      refine m_call (q := 109) (As := [_, _, _, _, _, _]) hM imX9_line ivX9_line ilX9_line mwX9_234 xciX9 dX9_nodeLines_106 rfl rfl rfl (Nat.le_of_ble_eq_true rfl) ?_
      refine (c_line G l o as M0 N S d σ (2 * node) (2 * node) (0) _ _ _ (1) (0) (0) (lN_i' _) (lN_i' _) (lN_i' _) (by omega) (by omega) (by omega) (n) (by omega) _ hR).mono (fun x σc1 hp => ?_)
      obtain ⟨rfl, qc1, lc1⟩ := hp
      intro M hM
      have oc1 : onlyL σ σc1 := (onlyL.rfl').trans qc1
      show xX G l _ (d + 1) _ _ _ [] M N S
      refine x_iload_n (q := 110) dX9_nodeLines_109 rfl rfl ?_
      refine xn_if_le (q := 113) 130 dX9_nodeLines_110 (by decide) rfl (by omega) (fun hc110 => ?_) (fun hc110 => absurd hc110 (by omega))
      refine xn_iconst (q := 131) 0 dX9_nodeLines_130 rfl (by decide) ?_
      refine x_istore (q := 133) (ls' := [(0, _), (1, _), (2, _), (3, _), (4, _)]) [1, 2, 3, 4, 0] dX9_nodeLines_131 rfl (by decide) rfl ?_
      refine x_iload_n (q := 134) dX9_nodeLines_133 rfl rfl ?_
      refine xn_if_eq (q := 137) 152 dX9_nodeLines_134 (by decide) rfl (by omega) (fun hc134 => absurd hc134 (by decide)) (fun hc134 => ?_)
      refine x_aload_n (q := 138) dX9_nodeLines_137 rfl rfl ?_
      refine m_get (q := 141) hM 6 fwX9_19 (by decide) dX9_nodeLines_138 rfl rfl ?_
      refine xn_iconst (q := 142) 2 dX9_nodeLines_141 rfl (by decide) ?_
      refine x_iload_n (q := 143) dX9_nodeLines_142 rfl rfl ?_
      refine xn_imul (q := 144) dX9_nodeLines_143 rfl ?_
      refine m_zald (q := 145) hM (n := 6) (by decide) dX9_nodeLines_144 rfl (by omega) ?_
      rw [(oc1).2.1, hHr hR0, hg]
      refine x_if_ne (q := 148) 152 dX9_nodeLines_145 (by decide) rfl (fun hc145 => absurd hc145 (by decide)) (fun hc145 => ?_)
      refine xn_iconst (q := 149) 1 dX9_nodeLines_148 rfl (by decide) ?_
      refine x_goto 153 dX9_nodeLines_149 (by decide) ?_
      refine x_istore (q := 155) (ls' := [(0, _), (1, _), (2, _), (3, _), (4, _), (5, _)]) [1, 2, 3, 4, 5, 0] dX9_nodeLines_153 rfl (by decide) rfl ?_
      refine x_aload_n (q := 156) dX9_nodeLines_155 rfl rfl ?_
      refine m_get (q := 159) hM 8 fwX9_26 (by decide) dX9_nodeLines_156 rfl rfl ?_
      refine x_iload_n (q := 160) dX9_nodeLines_159 rfl rfl ?_
      refine m_zald (q := 161) hM (n := 4) (by decide) dX9_nodeLines_160 rfl (by omega) ?_
      rw [(oc1).2.1, hTn, hU]
      refine x_if_eq (q := 164) 181 dX9_nodeLines_161 (by decide) rfl (fun hc161 => absurd hc161 (by decide)) (fun hc161 => ?_)
      refine x_iload (q := 166) dX9_nodeLines_164 rfl rfl ?_
      refine xn_if_eq (q := 169) 181 dX9_nodeLines_166 (by decide) rfl (by omega) (fun hc166 => ?_) (fun hc166 => absurd hc166 (by decide))
      refine x_aload_n (q := 182) dX9_nodeLines_181 rfl rfl ?_
      refine m_get (q := 185) hM 8 fwX9_26 (by decide) dX9_nodeLines_182 rfl rfl ?_
      refine x_iload_n (q := 186) dX9_nodeLines_185 rfl rfl ?_
      refine m_zald (q := 187) hM (n := 4) (by decide) dX9_nodeLines_186 rfl (by omega) ?_
      rw [(oc1).2.1, hTn, hU]
      refine x_if_eq (q := 190) 209 dX9_nodeLines_187 (by decide) rfl (fun hc187 => absurd hc187 (by decide)) (fun hc187 => ?_)
      refine x_iload (q := 192) dX9_nodeLines_190 rfl rfl ?_
      refine xn_if_eq (q := 195) 209 dX9_nodeLines_192 (by decide) rfl (by omega) (fun hc192 => absurd hc192 (by decide)) (fun hc192 => ?_)
      refine x_aload_n (q := 196) dX9_nodeLines_195 rfl rfl ?_
      refine xn_iconst (q := 197) 2 dX9_nodeLines_196 rfl (by decide) ?_
      refine x_iload_n (q := 198) dX9_nodeLines_197 rfl rfl ?_
      refine xn_imul (q := 199) dX9_nodeLines_198 rfl ?_
      refine xn_iconst (q := 200) 1 dX9_nodeLines_199 rfl (by decide) ?_
      refine xn_iadd (q := 201) dX9_nodeLines_200 rfl ?_
      refine xn_lconst (q := 202) 1 dX9_nodeLines_201 rfl (by decide) ?_
      refine xn_iconst (q := 203) 0 dX9_nodeLines_202 rfl (by decide) ?_
      refine xn_lconst (q := 204) 0 dX9_nodeLines_203 rfl (by decide) ?_
      refine xn_iconst (q := 205) 0 dX9_nodeLines_204 rfl (by decide) ?_
      refine xn_lconst (q := 206) 0 dX9_nodeLines_205 rfl (by decide) ?_
      refine m_call (q := 209) (As := [_, _, _, _, _, _]) hM imX9_line ivX9_line ilX9_line mwX9_234 xciX9 dX9_nodeLines_206 rfl rfl rfl (Nat.le_of_ble_eq_true rfl) ?_
      refine (c_line G l o as M0 N S d σc1 (2 * node + 1) (0) (0) _ _ _ (1) (0) (0) (lN_i' _) (lN_i' _) (lN_i' _) (by omega) (by omega) (by omega) (n + 1) (by omega) _ lc1).mono (fun x σc2 hp => ?_)
      obtain ⟨rfl, qc2, lc2⟩ := hp
      intro M hM
      have oc2 : onlyL σ σc2 := (oc1).trans qc2
      show xX G l _ (d + 1) _ _ _ [] M N S
      refine x_aload_n (q := 210) dX9_nodeLines_209 rfl rfl ?_
      refine m_get (q := 213) hM 8 fwX9_26 (by decide) dX9_nodeLines_210 rfl rfl ?_
      refine x_iload_n (q := 214) dX9_nodeLines_213 rfl rfl ?_
      refine m_zald (q := 215) hM (n := 4) (by decide) dX9_nodeLines_214 rfl (by omega) ?_
      rw [(oc2).2.1, hTn, hU]
      refine x_if_ne (q := 218) 246 dX9_nodeLines_215 (by decide) rfl (fun hc215 => ?_) (fun hc215 => absurd hc215 (by decide))
      refine x_vret rfl dX9_nodeLines_246 (m_ret hM ⟨rfl, oc2, ?_⟩)
      simp only [nlP, h0, hR0, hB, hg, hU, decide_true, decide_false, Bool.not_true, Bool.not_false, Bool.and_true, Bool.true_and, Bool.and_false, Bool.false_and, Bool.and_self, if_true, if_false, reduceIte, Bool.false_eq_true]
      exact lc2
    · refine x_iload_n (q := 1) dX9_nodeLines_0 rfl rfl ?_
      refine x_aload_n (q := 2) dX9_nodeLines_1 rfl rfl ?_
      refine m_get (q := 5) hM 3 fwX9_93 (by decide) dX9_nodeLines_2 rfl rfl ?_
      rw [(onlyL.rfl').1 3 (by decide), hm]
      refine xn_icmp_ge (q := 8) 12 dX9_nodeLines_5 (by decide) rfl (by omega) (by omega) (fun hc5 => absurd hc5 (by omega)) (fun hc5 => ?_)
      refine xn_iconst (q := 9) 1 dX9_nodeLines_8 rfl (by decide) ?_
      refine x_goto 13 dX9_nodeLines_9 (by decide) ?_
      refine x_istore_n (q := 14) (ls' := [(0, _), (1, _), (2, _)]) [1, 2, 0] dX9_nodeLines_13 rfl (by decide) rfl ?_
      refine xn_iconst (q := 15) 2 dX9_nodeLines_14 rfl (by decide) ?_
      refine x_iload_n (q := 16) dX9_nodeLines_15 rfl rfl ?_
      refine xn_imul (q := 17) dX9_nodeLines_16 rfl ?_
      refine xn_iconst (q := 18) 2 dX9_nodeLines_17 rfl (by decide) ?_
      refine x_isub (q := 19) dX9_nodeLines_18 rfl ?_
      refine x_istore_n (q := 20) (ls' := [(0, _), (1, _), (2, _), (3, _)]) [1, 2, 3, 0] dX9_nodeLines_19 rfl (by decide) rfl ?_
      refine x_iload_n (q := 21) dX9_nodeLines_20 rfl rfl ?_
      refine xn_if_le (q := 24) 52 dX9_nodeLines_21 (by decide) rfl (by omega) (fun hc21 => ?_) (fun hc21 => absurd hc21 (by omega))
      refine x_aload_n (q := 53) dX9_nodeLines_52 rfl rfl ?_
      refine m_get (q := 56) hM 7 fwX9_23 (by decide) dX9_nodeLines_53 rfl rfl ?_
      refine x_iload_n (q := 57) dX9_nodeLines_56 rfl rfl ?_
      refine m_zald (q := 58) hM (n := 4) (by decide) dX9_nodeLines_57 rfl (by omega) ?_
      rw [(onlyL.rfl').2.1, hHn, hB]
      refine x_if_eq (q := 61) 109 dX9_nodeLines_58 (by decide) rfl (fun hc58 => absurd hc58 (by decide)) (fun hc58 => ?_)
      refine x_aload_n (q := 62) dX9_nodeLines_61 rfl rfl ?_
      refine x_iload_n (q := 63) dX9_nodeLines_62 rfl rfl ?_
      refine xn_if_eq (q := 66) 72 dX9_nodeLines_63 (by decide) rfl (by omega) (fun hc63 => absurd hc63 (by decide)) (fun hc63 => ?_)
      refine xn_iconst (q := 67) 2 dX9_nodeLines_66 rfl (by decide) ?_
      refine x_iload_n (q := 68) dX9_nodeLines_67 rfl rfl ?_
      refine xn_imul (q := 69) dX9_nodeLines_68 rfl ?_
      refine x_goto 73 dX9_nodeLines_69 (by decide) ?_
      refine xn_lconst (q := 74) 1 dX9_nodeLines_73 rfl (by decide) ?_
      refine x_iload_n (q := 75) dX9_nodeLines_74 rfl rfl ?_
      refine xn_if_eq (q := 78) 84 dX9_nodeLines_75 (by decide) rfl (by omega) (fun hc75 => absurd hc75 (by decide)) (fun hc75 => ?_)
      refine xn_iconst (q := 79) 2 dX9_nodeLines_78 rfl (by decide) ?_
      refine x_iload_n (q := 80) dX9_nodeLines_79 rfl rfl ?_
      refine xn_imul (q := 81) dX9_nodeLines_80 rfl ?_
      refine x_goto 87 dX9_nodeLines_81 (by decide) ?_
      refine x_iload_n (q := 88) dX9_nodeLines_87 rfl rfl ?_
      refine xn_if_eq (q := 91) 95 dX9_nodeLines_88 (by decide) rfl (by omega) (fun hc88 => absurd hc88 (by decide)) (fun hc88 => ?_)
      refine xn_lconst (q := 92) 0 dX9_nodeLines_91 rfl (by decide) ?_
      refine x_goto 104 dX9_nodeLines_92 (by decide) ?_
      refine xn_iconst (q := 105) 0 dX9_nodeLines_104 rfl (by decide) ?_
      refine xn_lconst (q := 106) 0 dX9_nodeLines_105 rfl (by decide) ?_
      refine m_call (q := 109) (As := [_, _, _, _, _, _]) hM imX9_line ivX9_line ilX9_line mwX9_234 xciX9 dX9_nodeLines_106 rfl rfl rfl (Nat.le_of_ble_eq_true rfl) ?_
      refine (c_line G l o as M0 N S d σ (2 * node) (2 * node) (0) _ _ _ (1) (0) (0) (lN_i' _) (lN_i' _) (lN_i' _) (by omega) (by omega) (by omega) (n) (by omega) _ hR).mono (fun x σc1 hp => ?_)
      obtain ⟨rfl, qc1, lc1⟩ := hp
      intro M hM
      have oc1 : onlyL σ σc1 := (onlyL.rfl').trans qc1
      show xX G l _ (d + 1) _ _ _ [] M N S
      refine x_iload_n (q := 110) dX9_nodeLines_109 rfl rfl ?_
      refine xn_if_le (q := 113) 130 dX9_nodeLines_110 (by decide) rfl (by omega) (fun hc110 => ?_) (fun hc110 => absurd hc110 (by omega))
      refine xn_iconst (q := 131) 0 dX9_nodeLines_130 rfl (by decide) ?_
      refine x_istore (q := 133) (ls' := [(0, _), (1, _), (2, _), (3, _), (4, _)]) [1, 2, 3, 4, 0] dX9_nodeLines_131 rfl (by decide) rfl ?_
      refine x_iload_n (q := 134) dX9_nodeLines_133 rfl rfl ?_
      refine xn_if_eq (q := 137) 152 dX9_nodeLines_134 (by decide) rfl (by omega) (fun hc134 => absurd hc134 (by decide)) (fun hc134 => ?_)
      refine x_aload_n (q := 138) dX9_nodeLines_137 rfl rfl ?_
      refine m_get (q := 141) hM 6 fwX9_19 (by decide) dX9_nodeLines_138 rfl rfl ?_
      refine xn_iconst (q := 142) 2 dX9_nodeLines_141 rfl (by decide) ?_
      refine x_iload_n (q := 143) dX9_nodeLines_142 rfl rfl ?_
      refine xn_imul (q := 144) dX9_nodeLines_143 rfl ?_
      refine m_zald (q := 145) hM (n := 6) (by decide) dX9_nodeLines_144 rfl (by omega) ?_
      rw [(oc1).2.1, hHr hR0, hg]
      refine x_if_ne (q := 148) 152 dX9_nodeLines_145 (by decide) rfl (fun hc145 => ?_) (fun hc145 => absurd hc145 (by decide))
      refine xn_iconst (q := 153) 0 dX9_nodeLines_152 rfl (by decide) ?_
      refine x_istore (q := 155) (ls' := [(0, _), (1, _), (2, _), (3, _), (4, _), (5, _)]) [1, 2, 3, 4, 5, 0] dX9_nodeLines_153 rfl (by decide) rfl ?_
      refine x_aload_n (q := 156) dX9_nodeLines_155 rfl rfl ?_
      refine m_get (q := 159) hM 8 fwX9_26 (by decide) dX9_nodeLines_156 rfl rfl ?_
      refine x_iload_n (q := 160) dX9_nodeLines_159 rfl rfl ?_
      refine m_zald (q := 161) hM (n := 4) (by decide) dX9_nodeLines_160 rfl (by omega) ?_
      rw [(oc1).2.1, hTn, hU]
      refine x_if_eq (q := 164) 181 dX9_nodeLines_161 (by decide) rfl (fun hc161 => ?_) (fun hc161 => absurd (by decide) hc161)
      refine x_aload_n (q := 182) dX9_nodeLines_181 rfl rfl ?_
      refine m_get (q := 185) hM 8 fwX9_26 (by decide) dX9_nodeLines_182 rfl rfl ?_
      refine x_iload_n (q := 186) dX9_nodeLines_185 rfl rfl ?_
      refine m_zald (q := 187) hM (n := 4) (by decide) dX9_nodeLines_186 rfl (by omega) ?_
      rw [(oc1).2.1, hTn, hU]
      refine x_if_eq (q := 190) 209 dX9_nodeLines_187 (by decide) rfl (fun hc187 => ?_) (fun hc187 => absurd (by decide) hc187)
      refine x_aload_n (q := 210) dX9_nodeLines_209 rfl rfl ?_
      refine m_get (q := 213) hM 8 fwX9_26 (by decide) dX9_nodeLines_210 rfl rfl ?_
      refine x_iload_n (q := 214) dX9_nodeLines_213 rfl rfl ?_
      refine m_zald (q := 215) hM (n := 4) (by decide) dX9_nodeLines_214 rfl (by omega) ?_
      rw [(oc1).2.1, hTn, hU]
      refine x_if_ne (q := 218) 246 dX9_nodeLines_215 (by decide) rfl (fun hc215 => absurd hc215 (by decide)) (fun hc215 => ?_)
      refine x_iload (q := 220) dX9_nodeLines_218 rfl rfl ?_
      refine xn_if_eq (q := 223) 246 dX9_nodeLines_220 (by decide) rfl (by omega) (fun hc220 => ?_) (fun hc220 => absurd hc220 (by decide))
      refine x_vret rfl dX9_nodeLines_246 (m_ret hM ⟨rfl, oc1, ?_⟩)
      simp only [nlP, h0, hR0, hB, hg, hU, decide_true, decide_false, Bool.not_true, Bool.not_false, Bool.and_true, Bool.true_and, Bool.and_false, Bool.false_and, Bool.and_self, if_true, if_false, reduceIte, Bool.false_eq_true]
      exact lc1
    · refine x_iload_n (q := 1) dX9_nodeLines_0 rfl rfl ?_
      refine x_aload_n (q := 2) dX9_nodeLines_1 rfl rfl ?_
      refine m_get (q := 5) hM 3 fwX9_93 (by decide) dX9_nodeLines_2 rfl rfl ?_
      rw [(onlyL.rfl').1 3 (by decide), hm]
      refine xn_icmp_ge (q := 8) 12 dX9_nodeLines_5 (by decide) rfl (by omega) (by omega) (fun hc5 => absurd hc5 (by omega)) (fun hc5 => ?_)
      refine xn_iconst (q := 9) 1 dX9_nodeLines_8 rfl (by decide) ?_
      refine x_goto 13 dX9_nodeLines_9 (by decide) ?_
      refine x_istore_n (q := 14) (ls' := [(0, _), (1, _), (2, _)]) [1, 2, 0] dX9_nodeLines_13 rfl (by decide) rfl ?_
      refine xn_iconst (q := 15) 2 dX9_nodeLines_14 rfl (by decide) ?_
      refine x_iload_n (q := 16) dX9_nodeLines_15 rfl rfl ?_
      refine xn_imul (q := 17) dX9_nodeLines_16 rfl ?_
      refine xn_iconst (q := 18) 2 dX9_nodeLines_17 rfl (by decide) ?_
      refine x_isub (q := 19) dX9_nodeLines_18 rfl ?_
      refine x_istore_n (q := 20) (ls' := [(0, _), (1, _), (2, _), (3, _)]) [1, 2, 3, 0] dX9_nodeLines_19 rfl (by decide) rfl ?_
      refine x_iload_n (q := 21) dX9_nodeLines_20 rfl rfl ?_
      refine xn_if_le (q := 24) 52 dX9_nodeLines_21 (by decide) rfl (by omega) (fun hc21 => ?_) (fun hc21 => absurd hc21 (by omega))
      refine x_aload_n (q := 53) dX9_nodeLines_52 rfl rfl ?_
      refine m_get (q := 56) hM 7 fwX9_23 (by decide) dX9_nodeLines_53 rfl rfl ?_
      refine x_iload_n (q := 57) dX9_nodeLines_56 rfl rfl ?_
      refine m_zald (q := 58) hM (n := 4) (by decide) dX9_nodeLines_57 rfl (by omega) ?_
      rw [(onlyL.rfl').2.1, hHn, hB]
      refine x_if_eq (q := 61) 109 dX9_nodeLines_58 (by decide) rfl (fun hc58 => absurd hc58 (by decide)) (fun hc58 => ?_)
      refine x_aload_n (q := 62) dX9_nodeLines_61 rfl rfl ?_
      refine x_iload_n (q := 63) dX9_nodeLines_62 rfl rfl ?_
      refine xn_if_eq (q := 66) 72 dX9_nodeLines_63 (by decide) rfl (by omega) (fun hc63 => absurd hc63 (by decide)) (fun hc63 => ?_)
      refine xn_iconst (q := 67) 2 dX9_nodeLines_66 rfl (by decide) ?_
      refine x_iload_n (q := 68) dX9_nodeLines_67 rfl rfl ?_
      refine xn_imul (q := 69) dX9_nodeLines_68 rfl ?_
      refine x_goto 73 dX9_nodeLines_69 (by decide) ?_
      refine xn_lconst (q := 74) 1 dX9_nodeLines_73 rfl (by decide) ?_
      refine x_iload_n (q := 75) dX9_nodeLines_74 rfl rfl ?_
      refine xn_if_eq (q := 78) 84 dX9_nodeLines_75 (by decide) rfl (by omega) (fun hc75 => absurd hc75 (by decide)) (fun hc75 => ?_)
      refine xn_iconst (q := 79) 2 dX9_nodeLines_78 rfl (by decide) ?_
      refine x_iload_n (q := 80) dX9_nodeLines_79 rfl rfl ?_
      refine xn_imul (q := 81) dX9_nodeLines_80 rfl ?_
      refine x_goto 87 dX9_nodeLines_81 (by decide) ?_
      refine x_iload_n (q := 88) dX9_nodeLines_87 rfl rfl ?_
      refine xn_if_eq (q := 91) 95 dX9_nodeLines_88 (by decide) rfl (by omega) (fun hc88 => absurd hc88 (by decide)) (fun hc88 => ?_)
      refine xn_lconst (q := 92) 0 dX9_nodeLines_91 rfl (by decide) ?_
      refine x_goto 104 dX9_nodeLines_92 (by decide) ?_
      refine xn_iconst (q := 105) 0 dX9_nodeLines_104 rfl (by decide) ?_
      refine xn_lconst (q := 106) 0 dX9_nodeLines_105 rfl (by decide) ?_
      refine m_call (q := 109) (As := [_, _, _, _, _, _]) hM imX9_line ivX9_line ilX9_line mwX9_234 xciX9 dX9_nodeLines_106 rfl rfl rfl (Nat.le_of_ble_eq_true rfl) ?_
      refine (c_line G l o as M0 N S d σ (2 * node) (2 * node) (0) _ _ _ (1) (0) (0) (lN_i' _) (lN_i' _) (lN_i' _) (by omega) (by omega) (by omega) (n) (by omega) _ hR).mono (fun x σc1 hp => ?_)
      obtain ⟨rfl, qc1, lc1⟩ := hp
      intro M hM
      have oc1 : onlyL σ σc1 := (onlyL.rfl').trans qc1
      show xX G l _ (d + 1) _ _ _ [] M N S
      refine x_iload_n (q := 110) dX9_nodeLines_109 rfl rfl ?_
      refine xn_if_le (q := 113) 130 dX9_nodeLines_110 (by decide) rfl (by omega) (fun hc110 => ?_) (fun hc110 => absurd hc110 (by omega))
      refine xn_iconst (q := 131) 0 dX9_nodeLines_130 rfl (by decide) ?_
      refine x_istore (q := 133) (ls' := [(0, _), (1, _), (2, _), (3, _), (4, _)]) [1, 2, 3, 4, 0] dX9_nodeLines_131 rfl (by decide) rfl ?_
      refine x_iload_n (q := 134) dX9_nodeLines_133 rfl rfl ?_
      refine xn_if_eq (q := 137) 152 dX9_nodeLines_134 (by decide) rfl (by omega) (fun hc134 => absurd hc134 (by decide)) (fun hc134 => ?_)
      refine x_aload_n (q := 138) dX9_nodeLines_137 rfl rfl ?_
      refine m_get (q := 141) hM 6 fwX9_19 (by decide) dX9_nodeLines_138 rfl rfl ?_
      refine xn_iconst (q := 142) 2 dX9_nodeLines_141 rfl (by decide) ?_
      refine x_iload_n (q := 143) dX9_nodeLines_142 rfl rfl ?_
      refine xn_imul (q := 144) dX9_nodeLines_143 rfl ?_
      refine m_zald (q := 145) hM (n := 6) (by decide) dX9_nodeLines_144 rfl (by omega) ?_
      rw [(oc1).2.1, hHr hR0, hg]
      refine x_if_ne (q := 148) 152 dX9_nodeLines_145 (by decide) rfl (fun hc145 => ?_) (fun hc145 => absurd hc145 (by decide))
      refine xn_iconst (q := 153) 0 dX9_nodeLines_152 rfl (by decide) ?_
      refine x_istore (q := 155) (ls' := [(0, _), (1, _), (2, _), (3, _), (4, _), (5, _)]) [1, 2, 3, 4, 5, 0] dX9_nodeLines_153 rfl (by decide) rfl ?_
      refine x_aload_n (q := 156) dX9_nodeLines_155 rfl rfl ?_
      refine m_get (q := 159) hM 8 fwX9_26 (by decide) dX9_nodeLines_156 rfl rfl ?_
      refine x_iload_n (q := 160) dX9_nodeLines_159 rfl rfl ?_
      refine m_zald (q := 161) hM (n := 4) (by decide) dX9_nodeLines_160 rfl (by omega) ?_
      rw [(oc1).2.1, hTn, hU]
      refine x_if_eq (q := 164) 181 dX9_nodeLines_161 (by decide) rfl (fun hc161 => absurd hc161 (by decide)) (fun hc161 => ?_)
      refine x_iload (q := 166) dX9_nodeLines_164 rfl rfl ?_
      refine xn_if_eq (q := 169) 181 dX9_nodeLines_166 (by decide) rfl (by omega) (fun hc166 => ?_) (fun hc166 => absurd hc166 (by decide))
      refine x_aload_n (q := 182) dX9_nodeLines_181 rfl rfl ?_
      refine m_get (q := 185) hM 8 fwX9_26 (by decide) dX9_nodeLines_182 rfl rfl ?_
      refine x_iload_n (q := 186) dX9_nodeLines_185 rfl rfl ?_
      refine m_zald (q := 187) hM (n := 4) (by decide) dX9_nodeLines_186 rfl (by omega) ?_
      rw [(oc1).2.1, hTn, hU]
      refine x_if_eq (q := 190) 209 dX9_nodeLines_187 (by decide) rfl (fun hc187 => absurd hc187 (by decide)) (fun hc187 => ?_)
      refine x_iload (q := 192) dX9_nodeLines_190 rfl rfl ?_
      refine xn_if_eq (q := 195) 209 dX9_nodeLines_192 (by decide) rfl (by omega) (fun hc192 => ?_) (fun hc192 => absurd hc192 (by decide))
      refine x_aload_n (q := 210) dX9_nodeLines_209 rfl rfl ?_
      refine m_get (q := 213) hM 8 fwX9_26 (by decide) dX9_nodeLines_210 rfl rfl ?_
      refine x_iload_n (q := 214) dX9_nodeLines_213 rfl rfl ?_
      refine m_zald (q := 215) hM (n := 4) (by decide) dX9_nodeLines_214 rfl (by omega) ?_
      rw [(oc1).2.1, hTn, hU]
      refine x_if_ne (q := 218) 246 dX9_nodeLines_215 (by decide) rfl (fun hc215 => ?_) (fun hc215 => absurd hc215 (by decide))
      refine x_vret rfl dX9_nodeLines_246 (m_ret hM ⟨rfl, oc1, ?_⟩)
      simp only [nlP, h0, hR0, hB, hg, hU, decide_true, decide_false, Bool.not_true, Bool.not_false, Bool.and_true, Bool.true_and, Bool.and_false, Bool.false_and, Bool.and_self, if_true, if_false, reduceIte, Bool.false_eq_true]
      exact lc1
  · exact absurd hR0 (by omega)
end XO
