section XP1
theorem nlP_le (c : mCf) (R : Nat → Nat → Int) (n node : Nat) : n ≤ (nlP c R n node).2 ∧ (nlP c R n node).2 ≤ n + 4 := by
  cases h1 : (decide (0 < node) && decide (node < c.m)) <;> cases h2 : c.Hi node <;> cases h3 : c.Tu node <;> cases h4 : (decide (0 < node) && !c.Hg (2 * node - 1)) <;> cases h5 : (decide (node < c.m) && !c.Hg (2 * node))
  all_goals (simp only [nlP, h1, h2, h3, h4, h5, if_true, if_false, reduceIte, Bool.false_eq_true, Bool.and_true, Bool.true_and, Bool.and_false, Bool.false_and, Bool.not_true, Bool.not_false, Bool.and_self]; omega)
def nlS (c : mCf) : Nat → (Nat → Nat → Int) × Nat
  | 0 => (fun _ _ => 0, 0)
  | k + 1 => nlP c (nlS c k).1 (nlS c k).2 k
theorem nlS_le (c : mCf) : ∀ k, (nlS c k).2 ≤ 4 * k
  | 0 => Nat.le_refl _
  | k + 1 => by
    have ih := nlS_le c k
    have := nlP_le c (nlS c k).1 (nlS c k).2 k
    show (nlP c (nlS c k).1 (nlS c k).2 k).2 ≤ _
    omega
/-- the lines of a row of beams, how many, their rank -/
def liR (c : mCf) : Nat → Nat → Int := (nlS c (c.m + 1)).1
def liN (c : mCf) : Nat := (nlS c (c.m + 1)).2
def liK (c : mCf) : Nat := rkN (liR c) (liN c)
def looseB (c : mCf) : Bool := decide (liK c < 2 * c.m)
def freeF (c : mCf) (a : Nat) (x : Int) (b : Nat) (y : Int) : Bool := decide (liK c < rkN (addL (liR c) (liN c) (lineV a x b y 0 0)) (liN c + 1))
def freeP (c : mCf) (node : Nat) : Bool :=
  (if node < c.m then freeF c (2 * node) 1 0 0 else freeF c (2 * node - 2) 1 (2 * node - 2 + 1) (c.L (node - 1)))
  || ((decide (0 < node) && !c.Hg (2 * node - 1)) && freeF c (2 * node - 2 + 1) 1 0 0)
  || ((decide (node < c.m) && !c.Hg (2 * node)) && freeF c (2 * node + 1) 1 0 0)
def lsN (c : mCf) (k : Nat) : List Nat := (List.range k).filter (freeP c)
theorem lsN_s (c : mCf) (k : Nat) : lsN c (k + 1) = if freeP c k = true then lsN c k ++ [k] else lsN c k := by
  unfold lsN
  rw [List.range_succ, List.filter_append]
  by_cases h : freeP c k = true
  · rw [if_pos h, List.filter_cons_of_pos h, List.filter_nil]
  · rw [if_neg h, List.filter_cons_of_neg h, List.filter_nil, List.append_nil]
theorem lsN_le (c : mCf) (k : Nat) : (lsN c k).length ≤ k := Nat.le_trans (List.length_filter_le _ _) (by rw [List.length_range]; exact Nat.le_refl _)
def rigOk (c : mCf) : Prop := rkOk (liR c) (liN c) ∧ rkBd (liR c) (liN c) ∧ ∀ (a b : Nat) (x y : Int), a < 6 → b < 6 → 0 ≤ x → x ≤ 12 → 0 ≤ y → y ≤ 12 → rkOk (addL (liR c) (liN c) (lineV a x b y 0 0)) (liN c + 1) ∧ rkBd (addL (liR c) (liN c) (lineV a x b y 0 0)) (liN c + 1)
def onlyR (σ σ' : mS) : Prop := (∀ k, k ≠ 25 → k ≠ 23 → k ≠ 27 → σ'.1 k = σ.1 k) ∧ (∀ k, k ≠ 28 → σ'.2.1 k = σ.2.1 k) ∧ ∀ k, k ≠ 24 → k ≠ 26 → σ'.2.2 k = σ.2.2 k
theorem onlyR.trans {σ σ' σ'' : mS} (h : onlyR σ σ') (h2 : onlyR σ' σ'') : onlyR σ σ'' := ⟨fun k a b c => (h2.1 k a b c).trans (h.1 k a b c), fun k a => (h2.2.1 k a).trans (h.2.1 k a), fun k a b => (h2.2.2 k a b).trans (h.2.2 k a b)⟩
theorem onlyLW.r {σ σ' : mS} (h : onlyLW σ σ') : onlyR σ σ' := ⟨fun k a _ _ => h.1 k a, fun k _ => by rw [h.2.1], h.2.2⟩
theorem onlyR.cf {σ σ' : mS} {c : mCf} (h : onlyR σ σ') (hc : Cf σ c) : Cf σ' c := by
  unfold Cf at *
  rw [h.1 3 (by decide) (by decide) (by decide), h.2.1 4 (by decide), h.2.1 5 (by decide), h.2.1 6 (by decide), h.2.1 7 (by decide), h.2.1 8 (by decide), h.2.1 9 (by decide)]
  exact hc
theorem bI_ne {b : Bool} : ¬ bI b = 0 ↔ b = true := by cases b <;> decide
/-- the loose nodes are told: xs -/
def Lse (σ : mS) (xs : List Nat) : Prop := σ.1 27 = nI xs.length ∧ ∀ i, i < xs.length → σ.2.1 28 i = nI (xs.getD i 0)
theorem Lse.eq {σ σ' : mS} {xs : List Nat} (h : Lse σ xs) (h1 : σ'.1 27 = σ.1 27) (h2 : σ'.2.1 28 = σ.2.1 28) : Lse σ' xs := ⟨h1.trans h.1, fun i hi => by rw [h2]; exact h.2 i hi⟩
theorem Lns.eq {σ σ' : mS} {R : Nat → Nat → Int} {n : Nat} (h : Lns σ R n) (h1 : σ'.1 25 = σ.1 25) (h2 : σ'.2.2 24 = σ.2.2 24) : Lns σ' R n := ⟨h1.trans h.1, fun i j hi hj => by rw [h2]; exact h.2 i j hi hj⟩
set_option maxRecDepth 100000 in
set_option maxHeartbeats 4000000 in
theorem c_rigid_1 (G : xG) (l : Launch) (o : Nat) (as : Nat → Nat) (M0 : xM) (N S : Nat) (d : Nat) (σ : mS) (c : mCf) (hc : Cf σ c) (Q : xPost)
    (hx : ∀ σ' M, onlyL σ σ' → Lns σ' (liR c) (liN c) → mAt o as σ' M0 M → xX G l YX9_rigid (d + 2) Q 26 [(0, .ref o), (1, .int (nI (c.m + 1)))] [] M N S) :
    ∀ (u k : Nat), k + u = c.m + 1 → ∀ σ' M, onlyL σ σ' → Lns σ' (nlS c k).1 (nlS c k).2 → mAt o as σ' M0 M → xX G l YX9_rigid (d + 2) Q 7 [(0, .ref o), (1, .int (nI k))] [] M N S := by
  obtain ⟨ok, hm, -⟩ := id hc
  have m3 := ok.2.1
  intro u
  induction u with
  | zero =>
    intro k hk σ' M ho hl hM
    obtain rfl : k = c.m + 1 := by omega
    have hm' : σ'.1 3 = nI c.m := by rw [ho.1 3 (by decide)]; exact hm
    refine x_iload_n (q := 8) dX9_rigid_7 rfl rfl ?_
    refine x_aload_n (q := 9) dX9_rigid_8 rfl rfl ?_
    refine m_get (q := 12) hM 3 fwX9_93 (by decide) dX9_rigid_9 rfl rfl ?_
    rw [hm']
    refine xn_icmp_gt (q := 15) 26 dX9_rigid_12 (by decide) rfl (by omega) (by omega) (fun hc12 => ?_) (fun hc12 => absurd hc12 (by omega))
    exact hx σ' M ho hl hM
  | succ u ih =>
    intro k hk σ' M ho hl hM
    have hm' : σ'.1 3 = nI c.m := by rw [ho.1 3 (by decide)]; exact hm
    have hle := nlS_le c k
    refine x_iload_n (q := 8) dX9_rigid_7 rfl rfl ?_
    refine x_aload_n (q := 9) dX9_rigid_8 rfl rfl ?_
    refine m_get (q := 12) hM 3 fwX9_93 (by decide) dX9_rigid_9 rfl rfl ?_
    rw [hm']
    refine xn_icmp_gt (q := 15) 26 dX9_rigid_12 (by decide) rfl (by omega) (by omega) (fun hc12 => absurd hc12 (by omega)) (fun hc12 => ?_)
    refine x_aload_n (q := 16) dX9_rigid_15 rfl rfl ?_
    refine x_iload_n (q := 17) dX9_rigid_16 rfl rfl ?_
    refine m_call (q := 20) (As := [_]) hM imX9_nodeLines ivX9_nodeLines ilX9_nodeLines mwX9_242 xciX9 dX9_rigid_17 rfl rfl rfl (Nat.le_of_ble_eq_true rfl) ?_
    refine (c_nodeLines G l o as M0 N S d σ' c _ _ k (ho.cf hc) hl (by omega) (by omega)).mono (fun x σ9 hp => ?_)
    obtain ⟨rfl, o9, l9⟩ := hp
    intro M hM
    show xX G l _ (d + 2) _ _ _ [] M N S
    refine xn_iinc (q := 23) (ls' := [(0, _), (1, _)]) [1, 0] 1 dX9_rigid_20 rfl rfl (by decide) (by decide) rfl ?_
    refine x_goto 7 dX9_rigid_23 (by decide) ?_
    exact ih (k + 1) (by omega) σ9 M (ho.trans o9) l9 hM
set_option maxRecDepth 100000 in
set_option maxHeartbeats 4000000 in
theorem c_rigid_2 (G : xG) (l : Launch) (o : Nat) (as : Nat → Nat) (M0 : xM) (N S : Nat) (d : Nat) (σ : mS) (c : mCf) (hc : Cf σ c) (hok : rigOk c) (k : Nat) (hk : k ≤ c.m) (hlo : looseB c = true) (σ' : mS) (M : xM) (ho : onlyR σ σ') (h23 : σ'.1 23 = bI true) (hl : Lns σ' (liR c) (liN c)) (hx0 : Lse σ' (lsN c k)) (hM : mAt o as σ' M0 M) (Q : xPost)
    (hx : ∀ σ2 M, onlyR σ σ2 → σ2.1 23 = bI true → Lns σ2 (liR c) (liN c) → Lse σ2 (lsN c (k + 1)) → mAt o as σ2 M0 M → xX G l YX9_rigid (d + 4) Q 61 [(0, .ref o), (1, .int (nI (liK c))), (2, .int (nI (k + 1)))] [] M N S) :
    xX G l YX9_rigid (d + 4) Q 61 [(0, .ref o), (1, .int (nI (liK c))), (2, .int (nI k))] [] M N S := by
  obtain ⟨ok, hm, hL, hE, hH, hHi, hTu, hSe⟩ := id (ho.cf hc)
  obtain ⟨m1, m3, okL, okE, okS⟩ := ok
  have hHl : σ'.2.1 6 (2 * k - 1) = bI (c.Hg (2 * k - 1)) := hH _ (by omega)
  have hHr : k < c.m → σ'.2.1 6 (2 * k) = bI (c.Hg (2 * k)) := fun h => hH _ (by omega)
  have hL1 := hL (k - 1) (by omega)
  have okL1 := okL (k - 1) (by omega)
  have hKl : liK c ≤ liN c := (rkS_le (liR c) (liN c) 6).1
  have hNl : liN c ≤ 16 := by have := nlS_le c (c.m + 1); unfold liN; omega
  have hlen := lsN_le c k
  generalize hK : liK c = K at *
  have fin : ∀ (σ2 : mS) (M : xM) (fr : Bool), freeP c k = fr → onlyR σ σ2 → σ2.1 23 = bI true → Lns σ2 (liR c) (liN c) → Lse σ2 (lsN c k) → mAt o as σ2 M0 M → ∀ (s3 s4 : Int32), xX G l YX9_rigid (d + 4) Q 225 [(0, .ref o), (1, .int (nI K)), (2, .int (nI k)), (3, .int s3), (4, .int s4), (5, .int (nI (if fr = true then 1 else 0)))] [] M N S := by
    intro σ2 M fr hfr o2 e2 l2 x2 hM s3 s4
    obtain ⟨x27, x28⟩ := x2
    cases fr
    · simp only [Bool.false_eq_true, if_false, if_true, reduceIte]
      refine x_iload (q := 227) dX9_rigid_225 rfl rfl ?_
      refine xn_if_eq (q := 230) 250 dX9_rigid_227 (by decide) rfl (by omega) (fun hc227 => ?_) (fun hc227 => absurd hc227 (by decide))
      refine xn_iinc (q := 253) (ls' := [(0, _), (1, _), (2, _), (3, _), (4, _), (5, _)]) [1, 2, 0, 3, 4, 5] 1 dX9_rigid_250 rfl rfl (by decide) (by decide) rfl ?_
      refine x_goto 61 dX9_rigid_253 (by decide) ?_
      refine x_ls (ls' := [(0, _), (1, _), (2, _)]) [0, 1, 2] rfl ?_
      exact hx σ2 M o2 e2 l2 (by rw [lsN_s, if_neg (by rw [hfr]; decide)]; exact ⟨x27, x28⟩) hM
    · simp only [Bool.false_eq_true, if_false, if_true, reduceIte]
      refine x_iload (q := 227) dX9_rigid_225 rfl rfl ?_
      refine xn_if_eq (q := 230) 250 dX9_rigid_227 (by decide) rfl (by omega) (fun hc227 => absurd hc227 (by decide)) (fun hc227 => ?_)
      refine x_aload_n (q := 231) dX9_rigid_230 rfl rfl ?_
      refine m_get (q := 234) hM 28 fwX9_69 (by decide) dX9_rigid_231 rfl rfl ?_
      refine x_aload_n (q := 235) dX9_rigid_234 rfl rfl ?_
      refine m_get (q := 238) hM 27 fwX9_245 (by decide) dX9_rigid_235 rfl rfl ?_
      rw [x27]
      refine x_iload_n (q := 239) dX9_rigid_238 rfl rfl ?_
      refine m_iastG (q := 240) hM (n := 4) (by decide) dX9_rigid_239 rfl (by omega) (fun M σ239 a239 b239 c239 e239 f239 hM => ?_)
      refine x_aload_n (q := 241) dX9_rigid_240 rfl rfl ?_
      refine x_dup (q := 242) dX9_rigid_241 rfl rfl ?_
      refine m_get (q := 245) hM 27 fwX9_245 (by decide) dX9_rigid_242 rfl rfl ?_
      rw [a239, x27]
      refine xn_iconst (q := 246) 1 dX9_rigid_245 rfl (by decide) ?_
      refine xn_iadd (q := 247) dX9_rigid_246 rfl ?_
      refine m_putG (q := 250) hM 27 fwX9_245 (by decide) rfl rfl rfl dX9_rigid_247 rfl rfl rfl (fun M σ247 a247 e247 b247 hM => ?_)
      refine xn_iinc (q := 253) (ls' := [(0, _), (1, _), (2, _), (3, _), (4, _), (5, _)]) [1, 2, 0, 3, 4, 5] 1 dX9_rigid_250 rfl rfl (by decide) (by decide) rfl ?_
      refine x_goto 61 dX9_rigid_253 (by decide) ?_
      refine x_ls (ls' := [(0, _), (1, _), (2, _)]) [0, 1, 2] rfl ?_
      refine hx σ247 M (o2.trans ⟨fun q a b c => by rw [a247 q c, a239], fun q a => by rw [b247, c239 q a], fun q _ _ => by rw [b247, b239]⟩) (by rw [a247 23 (by decide), a239]; exact e2) (l2.eq (by rw [a247 25 (by decide), a239]) (by rw [b247, b239])) ?_ hM
      rw [lsN_s, if_pos hfr]
      refine ⟨by rw [e247, List.length_append]; rfl, fun i hi => ?_⟩
      rw [List.length_append] at hi
      have hi : i < (lsN c k).length + 1 := hi
      rw [b247]
      by_cases e : i = (lsN c k).length
      · rw [e, e239, List.getD_eq_getElem?_getD, List.getElem?_append_right (Nat.le_refl _), Nat.sub_self]; rfl
      · rw [f239 i e, List.getD_eq_getElem?_getD, List.getElem?_append_left (by omega), ← List.getD_eq_getElem?_getD]; exact x28 i (by omega)
  by_cases h0 : 0 < k <;> by_cases hR0 : k < c.m
  · cases hl0 : c.Hg (2 * k - 1) <;> cases hg0 : c.Hg (2 * k)
    · refine x_iload_n (q := 62) dX9_rigid_61 rfl rfl ?_
      refine x_aload_n (q := 63) dX9_rigid_62 rfl rfl ?_
      refine m_get (q := 66) hM 3 fwX9_93 (by decide) dX9_rigid_63 rfl rfl ?_
      rw [hm]
      refine xn_icmp_gt (q := 69) 256 dX9_rigid_66 (by decide) rfl (by omega) (by omega) (fun hc66 => absurd hc66 (by omega)) (fun hc66 => ?_)
      refine x_aload_n (q := 70) dX9_rigid_69 rfl rfl ?_
      refine m_get (q := 73) hM 23 fwX9_212 (by decide) dX9_rigid_70 rfl rfl ?_
      rw [h23]
      refine x_if_eq (q := 76) 256 dX9_rigid_73 (by decide) rfl (fun hc73 => absurd hc73 (by decide)) (fun hc73 => ?_)
      refine x_iload_n (q := 77) dX9_rigid_76 rfl rfl ?_
      refine x_aload_n (q := 78) dX9_rigid_77 rfl rfl ?_
      refine m_get (q := 81) hM 3 fwX9_93 (by decide) dX9_rigid_78 rfl rfl ?_
      rw [hm]
      refine xn_icmp_ge (q := 84) 88 dX9_rigid_81 (by decide) rfl (by omega) (by omega) (fun hc81 => absurd hc81 (by omega)) (fun hc81 => ?_)
      refine xn_iconst (q := 85) 1 dX9_rigid_84 rfl (by decide) ?_
      refine x_goto 89 dX9_rigid_85 (by decide) ?_
      refine x_istore_n (q := 90) (ls' := [(0, _), (1, _), (2, _), (3, _)]) [1, 2, 3, 0] dX9_rigid_89 rfl (by decide) rfl ?_
      refine xn_iconst (q := 91) 2 dX9_rigid_90 rfl (by decide) ?_
      refine x_iload_n (q := 92) dX9_rigid_91 rfl rfl ?_
      refine xn_imul (q := 93) dX9_rigid_92 rfl ?_
      refine xn_iconst (q := 94) 2 dX9_rigid_93 rfl (by decide) ?_
      refine xn_isub (q := 95) dX9_rigid_94 rfl (by omega) ?_
      refine x_istore (q := 97) (ls' := [(0, _), (1, _), (2, _), (3, _), (4, _)]) [1, 2, 3, 4, 0] dX9_rigid_95 rfl (by decide) rfl ?_
      refine x_iload_n (q := 98) dX9_rigid_97 rfl rfl ?_
      refine xn_if_eq (q := 101) 115 dX9_rigid_98 (by decide) rfl (by omega) (fun hc98 => absurd hc98 (by decide)) (fun hc98 => ?_)
      refine x_aload_n (q := 102) dX9_rigid_101 rfl rfl ?_
      refine xn_iconst (q := 103) 2 dX9_rigid_102 rfl (by decide) ?_
      refine x_iload_n (q := 104) dX9_rigid_103 rfl rfl ?_
      refine xn_imul (q := 105) dX9_rigid_104 rfl ?_
      refine xn_lconst (q := 106) 1 dX9_rigid_105 rfl (by decide) ?_
      refine xn_iconst (q := 107) 0 dX9_rigid_106 rfl (by decide) ?_
      refine xn_lconst (q := 108) 0 dX9_rigid_107 rfl (by decide) ?_
      refine x_iload_n (q := 109) dX9_rigid_108 rfl rfl ?_
      refine m_call (q := 112) (As := [_, _, _, _, _]) hM imX9_isFree ivX9_isFree ilX9_isFree mwX9_248 xciX9 dX9_rigid_109 rfl rfl rfl (Nat.le_of_ble_eq_true rfl) ?_
      have qf1 := hok.2.2 (2 * k) (0) (1) (0) (by omega) (by omega) (by omega) (by omega) (by omega) (by omega)
      refine (c_isFree G l o as M0 N S d σ' (2 * k) (0) _ _ (1) (0) (lN_i' _) (lN_i' _) (by omega) (by omega) K (liN c) (by omega) (by omega) (liR c) hl qf1.1 qf1.2).mono (fun x σf1 hp => ?_)
      obtain ⟨rfl, wf1, lf1⟩ := hp
      intro M hM
      have of1 : onlyR σ σf1 := (ho).trans wf1.r
      have tf1 : σf1.1 23 = bI true := by rw [wf1.1 23 (by decide)]; exact h23
      have xf1 := Lse.eq hx0 (wf1.1 27 (by decide)) (by rw [wf1.2.1])
      have zf1 : σf1.2.1 = σ'.2.1 := wf1.2.1.trans rfl
      have gf1 : freeF c (2 * k) (1) (0) (0) = decide (K < rkN (addL (liR c) (liN c) (lineV (2 * k) (1) (0) (0) 0 0)) (liN c + 1)) := by unfold freeF; rw [hK]
      rw [← gf1]
      show xX G l _ (d + 4) _ _ _ [.int (bI (freeF c (2 * k) (1) (0) (0)))] M N S
      refine x_goto 136 dX9_rigid_112 (by decide) ?_
      refine x_istore (q := 138) (ls' := [(0, _), (1, _), (2, _), (3, _), (4, _), (5, _)]) [1, 2, 3, 4, 5, 0] dX9_rigid_136 rfl (by decide) rfl ?_
      refine x_iload (q := 140) dX9_rigid_138 rfl rfl ?_
      refine x_if_ne (q := 143) 175 dX9_rigid_140 (by decide) rfl (fun hc140 => ?_) (fun hc140 => ?_)
      · refine xn_iconst (q := 176) 1 dX9_rigid_175 rfl (by decide) ?_
        refine x_goto 180 dX9_rigid_176 (by decide) ?_
        refine x_istore (q := 182) (ls' := [(0, _), (1, _), (2, _), (3, _), (4, _), (5, _)]) [1, 2, 3, 4, 5, 0] dX9_rigid_180 rfl (by decide) rfl ?_
        refine x_iload (q := 184) dX9_rigid_182 rfl rfl ?_
        refine xn_if_ne (q := 187) 218 dX9_rigid_184 (by decide) rfl (by omega) (fun hc184 => ?_) (fun hc184 => absurd hc184 (by decide))
        refine xn_iconst (q := 219) 1 dX9_rigid_218 rfl (by decide) ?_
        refine x_goto 223 dX9_rigid_219 (by decide) ?_
        refine x_istore (q := 225) (ls' := [(0, _), (1, _), (2, _), (3, _), (4, _), (5, _)]) [1, 2, 3, 4, 5, 0] dX9_rigid_223 rfl (by decide) rfl ?_
        refine fin σf1 M true ?_ of1 tf1 lf1 xf1 hM _ _
        unfold freeP
        simp only [h0, hR0, hl0, hg0, decide_true, decide_false, if_true, if_false, reduceIte, Bool.not_true, Bool.not_false, Bool.and_true, Bool.true_and, Bool.and_false, Bool.false_and, Bool.or_false, Bool.false_or]
        try rw [show freeF c (2 * k) (1) (0) (0) = true from bI_ne.mp hc140]
        try rw [show freeF c (2 * k) (1) (0) (0) = false from bI_eq.mp hc140]
        try rw [show freeF c (2 * k - 2 + 1) (1) (0) (0) = true from bI_ne.mp hc172]
        try rw [show freeF c (2 * k - 2 + 1) (1) (0) (0) = false from bI_eq.mp hc172]
        try rw [show freeF c (2 * k + 1) (1) (0) (0) = true from bI_ne.mp hc215]
        try rw [show freeF c (2 * k + 1) (1) (0) (0) = false from bI_eq.mp hc215]
        try simp only [Bool.true_or, Bool.or_true, Bool.or_false, Bool.false_or]
      · refine x_iload_n (q := 144) dX9_rigid_143 rfl rfl ?_
        refine xn_if_le (q := 147) 179 dX9_rigid_144 (by decide) rfl (by omega) (fun hc144 => absurd hc144 (by omega)) (fun hc144 => ?_)
        refine x_aload_n (q := 148) dX9_rigid_147 rfl rfl ?_
        refine m_get (q := 151) hM 6 fwX9_19 (by decide) dX9_rigid_148 rfl rfl ?_
        refine xn_iconst (q := 152) 2 dX9_rigid_151 rfl (by decide) ?_
        refine x_iload_n (q := 153) dX9_rigid_152 rfl rfl ?_
        refine xn_imul (q := 154) dX9_rigid_153 rfl ?_
        refine xn_iconst (q := 155) 1 dX9_rigid_154 rfl (by decide) ?_
        refine xn_isub (q := 156) dX9_rigid_155 rfl (by omega) ?_
        refine m_zald (q := 157) hM (n := 6) (by decide) dX9_rigid_156 rfl (by omega) ?_
        rw [zf1, hHl, hl0]
        refine x_if_ne (q := 160) 179 dX9_rigid_157 (by decide) rfl (fun hc157 => absurd hc157 (by decide)) (fun hc157 => ?_)
        refine x_aload_n (q := 161) dX9_rigid_160 rfl rfl ?_
        refine x_iload (q := 163) dX9_rigid_161 rfl rfl ?_
        refine xn_iconst (q := 164) 1 dX9_rigid_163 rfl (by decide) ?_
        refine xn_iadd (q := 165) dX9_rigid_164 rfl ?_
        refine xn_lconst (q := 166) 1 dX9_rigid_165 rfl (by decide) ?_
        refine xn_iconst (q := 167) 0 dX9_rigid_166 rfl (by decide) ?_
        refine xn_lconst (q := 168) 0 dX9_rigid_167 rfl (by decide) ?_
        refine x_iload_n (q := 169) dX9_rigid_168 rfl rfl ?_
        refine m_call (q := 172) (As := [_, _, _, _, _]) hM imX9_isFree ivX9_isFree ilX9_isFree mwX9_248 xciX9 dX9_rigid_169 rfl rfl rfl (Nat.le_of_ble_eq_true rfl) ?_
        have qf2 := hok.2.2 (2 * k - 2 + 1) (0) (1) (0) (by omega) (by omega) (by omega) (by omega) (by omega) (by omega)
        refine (c_isFree G l o as M0 N S d σf1 (2 * k - 2 + 1) (0) _ _ (1) (0) (lN_i' _) (lN_i' _) (by omega) (by omega) K (liN c) (by omega) (by omega) (liR c) lf1 qf2.1 qf2.2).mono (fun x σf2 hp => ?_)
        obtain ⟨rfl, wf2, lf2⟩ := hp
        intro M hM
        have of2 : onlyR σ σf2 := (of1).trans wf2.r
        have tf2 : σf2.1 23 = bI true := by rw [wf2.1 23 (by decide)]; exact tf1
        have xf2 := Lse.eq xf1 (wf2.1 27 (by decide)) (by rw [wf2.2.1])
        have zf2 : σf2.2.1 = σ'.2.1 := wf2.2.1.trans zf1
        have gf2 : freeF c (2 * k - 2 + 1) (1) (0) (0) = decide (K < rkN (addL (liR c) (liN c) (lineV (2 * k - 2 + 1) (1) (0) (0) 0 0)) (liN c + 1)) := by unfold freeF; rw [hK]
        rw [← gf2]
        show xX G l _ (d + 4) _ _ _ [.int (bI (freeF c (2 * k - 2 + 1) (1) (0) (0)))] M N S
        refine x_if_eq (q := 175) 179 dX9_rigid_172 (by decide) rfl (fun hc172 => ?_) (fun hc172 => ?_)
        · refine xn_iconst (q := 180) 0 dX9_rigid_179 rfl (by decide) ?_
          refine x_istore (q := 182) (ls' := [(0, _), (1, _), (2, _), (3, _), (4, _), (5, _)]) [1, 2, 3, 4, 5, 0] dX9_rigid_180 rfl (by decide) rfl ?_
          refine x_iload (q := 184) dX9_rigid_182 rfl rfl ?_
          refine xn_if_ne (q := 187) 218 dX9_rigid_184 (by decide) rfl (by omega) (fun hc184 => absurd hc184 (by decide)) (fun hc184 => ?_)
          refine x_iload_n (q := 188) dX9_rigid_187 rfl rfl ?_
          refine xn_if_eq (q := 191) 222 dX9_rigid_188 (by decide) rfl (by omega) (fun hc188 => absurd hc188 (by decide)) (fun hc188 => ?_)
          refine x_aload_n (q := 192) dX9_rigid_191 rfl rfl ?_
          refine m_get (q := 195) hM 6 fwX9_19 (by decide) dX9_rigid_192 rfl rfl ?_
          refine xn_iconst (q := 196) 2 dX9_rigid_195 rfl (by decide) ?_
          refine x_iload_n (q := 197) dX9_rigid_196 rfl rfl ?_
          refine xn_imul (q := 198) dX9_rigid_197 rfl ?_
          refine m_zald (q := 199) hM (n := 6) (by decide) dX9_rigid_198 rfl (by omega) ?_
          rw [zf2, hHr hR0, hg0]
          refine x_if_ne (q := 202) 222 dX9_rigid_199 (by decide) rfl (fun hc199 => absurd hc199 (by decide)) (fun hc199 => ?_)
          refine x_aload_n (q := 203) dX9_rigid_202 rfl rfl ?_
          refine xn_iconst (q := 204) 2 dX9_rigid_203 rfl (by decide) ?_
          refine x_iload_n (q := 205) dX9_rigid_204 rfl rfl ?_
          refine xn_imul (q := 206) dX9_rigid_205 rfl ?_
          refine xn_iconst (q := 207) 1 dX9_rigid_206 rfl (by decide) ?_
          refine xn_iadd (q := 208) dX9_rigid_207 rfl ?_
          refine xn_lconst (q := 209) 1 dX9_rigid_208 rfl (by decide) ?_
          refine xn_iconst (q := 210) 0 dX9_rigid_209 rfl (by decide) ?_
          refine xn_lconst (q := 211) 0 dX9_rigid_210 rfl (by decide) ?_
          refine x_iload_n (q := 212) dX9_rigid_211 rfl rfl ?_
          refine m_call (q := 215) (As := [_, _, _, _, _]) hM imX9_isFree ivX9_isFree ilX9_isFree mwX9_248 xciX9 dX9_rigid_212 rfl rfl rfl (Nat.le_of_ble_eq_true rfl) ?_
          have qf3 := hok.2.2 (2 * k + 1) (0) (1) (0) (by omega) (by omega) (by omega) (by omega) (by omega) (by omega)
          refine (c_isFree G l o as M0 N S d σf2 (2 * k + 1) (0) _ _ (1) (0) (lN_i' _) (lN_i' _) (by omega) (by omega) K (liN c) (by omega) (by omega) (liR c) lf2 qf3.1 qf3.2).mono (fun x σf3 hp => ?_)
          obtain ⟨rfl, wf3, lf3⟩ := hp
          intro M hM
          have of3 : onlyR σ σf3 := (of2).trans wf3.r
          have tf3 : σf3.1 23 = bI true := by rw [wf3.1 23 (by decide)]; exact tf2
          have xf3 := Lse.eq xf2 (wf3.1 27 (by decide)) (by rw [wf3.2.1])
          have zf3 : σf3.2.1 = σ'.2.1 := wf3.2.1.trans zf2
          have gf3 : freeF c (2 * k + 1) (1) (0) (0) = decide (K < rkN (addL (liR c) (liN c) (lineV (2 * k + 1) (1) (0) (0) 0 0)) (liN c + 1)) := by unfold freeF; rw [hK]
          rw [← gf3]
          show xX G l _ (d + 4) _ _ _ [.int (bI (freeF c (2 * k + 1) (1) (0) (0)))] M N S
          refine x_if_eq (q := 218) 222 dX9_rigid_215 (by decide) rfl (fun hc215 => ?_) (fun hc215 => ?_)
          · refine xn_iconst (q := 223) 0 dX9_rigid_222 rfl (by decide) ?_
            refine x_istore (q := 225) (ls' := [(0, _), (1, _), (2, _), (3, _), (4, _), (5, _)]) [1, 2, 3, 4, 5, 0] dX9_rigid_223 rfl (by decide) rfl ?_
            refine fin σf3 M false ?_ of3 tf3 lf3 xf3 hM _ _
            unfold freeP
            simp only [h0, hR0, hl0, hg0, decide_true, decide_false, if_true, if_false, reduceIte, Bool.not_true, Bool.not_false, Bool.and_true, Bool.true_and, Bool.and_false, Bool.false_and, Bool.or_false, Bool.false_or]
            try rw [show freeF c (2 * k) (1) (0) (0) = true from bI_ne.mp hc140]
            try rw [show freeF c (2 * k) (1) (0) (0) = false from bI_eq.mp hc140]
            try rw [show freeF c (2 * k - 2 + 1) (1) (0) (0) = true from bI_ne.mp hc172]
            try rw [show freeF c (2 * k - 2 + 1) (1) (0) (0) = false from bI_eq.mp hc172]
            try rw [show freeF c (2 * k + 1) (1) (0) (0) = true from bI_ne.mp hc215]
            try rw [show freeF c (2 * k + 1) (1) (0) (0) = false from bI_eq.mp hc215]
            try simp only [Bool.true_or, Bool.or_true, Bool.or_false, Bool.false_or]
          · refine xn_iconst (q := 219) 1 dX9_rigid_218 rfl (by decide) ?_
            refine x_goto 223 dX9_rigid_219 (by decide) ?_
            refine x_istore (q := 225) (ls' := [(0, _), (1, _), (2, _), (3, _), (4, _), (5, _)]) [1, 2, 3, 4, 5, 0] dX9_rigid_223 rfl (by decide) rfl ?_
            refine fin σf3 M true ?_ of3 tf3 lf3 xf3 hM _ _
            unfold freeP
            simp only [h0, hR0, hl0, hg0, decide_true, decide_false, if_true, if_false, reduceIte, Bool.not_true, Bool.not_false, Bool.and_true, Bool.true_and, Bool.and_false, Bool.false_and, Bool.or_false, Bool.false_or]
            try rw [show freeF c (2 * k) (1) (0) (0) = true from bI_ne.mp hc140]
            try rw [show freeF c (2 * k) (1) (0) (0) = false from bI_eq.mp hc140]
            try rw [show freeF c (2 * k - 2 + 1) (1) (0) (0) = true from bI_ne.mp hc172]
            try rw [show freeF c (2 * k - 2 + 1) (1) (0) (0) = false from bI_eq.mp hc172]
            try rw [show freeF c (2 * k + 1) (1) (0) (0) = true from bI_ne.mp hc215]
            try rw [show freeF c (2 * k + 1) (1) (0) (0) = false from bI_eq.mp hc215]
            try simp only [Bool.true_or, Bool.or_true, Bool.or_false, Bool.false_or]
        · refine xn_iconst (q := 176) 1 dX9_rigid_175 rfl (by decide) ?_
          refine x_goto 180 dX9_rigid_176 (by decide) ?_
          refine x_istore (q := 182) (ls' := [(0, _), (1, _), (2, _), (3, _), (4, _), (5, _)]) [1, 2, 3, 4, 5, 0] dX9_rigid_180 rfl (by decide) rfl ?_
          refine x_iload (q := 184) dX9_rigid_182 rfl rfl ?_
          refine xn_if_ne (q := 187) 218 dX9_rigid_184 (by decide) rfl (by omega) (fun hc184 => ?_) (fun hc184 => absurd hc184 (by decide))
          refine xn_iconst (q := 219) 1 dX9_rigid_218 rfl (by decide) ?_
          refine x_goto 223 dX9_rigid_219 (by decide) ?_
          refine x_istore (q := 225) (ls' := [(0, _), (1, _), (2, _), (3, _), (4, _), (5, _)]) [1, 2, 3, 4, 5, 0] dX9_rigid_223 rfl (by decide) rfl ?_
          refine fin σf2 M true ?_ of2 tf2 lf2 xf2 hM _ _
          unfold freeP
          simp only [h0, hR0, hl0, hg0, decide_true, decide_false, if_true, if_false, reduceIte, Bool.not_true, Bool.not_false, Bool.and_true, Bool.true_and, Bool.and_false, Bool.false_and, Bool.or_false, Bool.false_or]
          try rw [show freeF c (2 * k) (1) (0) (0) = true from bI_ne.mp hc140]
          try rw [show freeF c (2 * k) (1) (0) (0) = false from bI_eq.mp hc140]
          try rw [show freeF c (2 * k - 2 + 1) (1) (0) (0) = true from bI_ne.mp hc172]
          try rw [show freeF c (2 * k - 2 + 1) (1) (0) (0) = false from bI_eq.mp hc172]
          try rw [show freeF c (2 * k + 1) (1) (0) (0) = true from bI_ne.mp hc215]
          try rw [show freeF c (2 * k + 1) (1) (0) (0) = false from bI_eq.mp hc215]
          try simp only [Bool.true_or, Bool.or_true, Bool.or_false, Bool.false_or]
    · refine x_iload_n (q := 62) dX9_rigid_61 rfl rfl ?_
      refine x_aload_n (q := 63) dX9_rigid_62 rfl rfl ?_
      refine m_get (q := 66) hM 3 fwX9_93 (by decide) dX9_rigid_63 rfl rfl ?_
      rw [hm]
      refine xn_icmp_gt (q := 69) 256 dX9_rigid_66 (by decide) rfl (by omega) (by omega) (fun hc66 => absurd hc66 (by omega)) (fun hc66 => ?_)
      refine x_aload_n (q := 70) dX9_rigid_69 rfl rfl ?_
      refine m_get (q := 73) hM 23 fwX9_212 (by decide) dX9_rigid_70 rfl rfl ?_
      rw [h23]
      refine x_if_eq (q := 76) 256 dX9_rigid_73 (by decide) rfl (fun hc73 => absurd hc73 (by decide)) (fun hc73 => ?_)
      refine x_iload_n (q := 77) dX9_rigid_76 rfl rfl ?_
      refine x_aload_n (q := 78) dX9_rigid_77 rfl rfl ?_
      refine m_get (q := 81) hM 3 fwX9_93 (by decide) dX9_rigid_78 rfl rfl ?_
      rw [hm]
      refine xn_icmp_ge (q := 84) 88 dX9_rigid_81 (by decide) rfl (by omega) (by omega) (fun hc81 => absurd hc81 (by omega)) (fun hc81 => ?_)
      refine xn_iconst (q := 85) 1 dX9_rigid_84 rfl (by decide) ?_
      refine x_goto 89 dX9_rigid_85 (by decide) ?_
      refine x_istore_n (q := 90) (ls' := [(0, _), (1, _), (2, _), (3, _)]) [1, 2, 3, 0] dX9_rigid_89 rfl (by decide) rfl ?_
      refine xn_iconst (q := 91) 2 dX9_rigid_90 rfl (by decide) ?_
      refine x_iload_n (q := 92) dX9_rigid_91 rfl rfl ?_
      refine xn_imul (q := 93) dX9_rigid_92 rfl ?_
      refine xn_iconst (q := 94) 2 dX9_rigid_93 rfl (by decide) ?_
      refine xn_isub (q := 95) dX9_rigid_94 rfl (by omega) ?_
      refine x_istore (q := 97) (ls' := [(0, _), (1, _), (2, _), (3, _), (4, _)]) [1, 2, 3, 4, 0] dX9_rigid_95 rfl (by decide) rfl ?_
      refine x_iload_n (q := 98) dX9_rigid_97 rfl rfl ?_
      refine xn_if_eq (q := 101) 115 dX9_rigid_98 (by decide) rfl (by omega) (fun hc98 => absurd hc98 (by decide)) (fun hc98 => ?_)
      refine x_aload_n (q := 102) dX9_rigid_101 rfl rfl ?_
      refine xn_iconst (q := 103) 2 dX9_rigid_102 rfl (by decide) ?_
      refine x_iload_n (q := 104) dX9_rigid_103 rfl rfl ?_
      refine xn_imul (q := 105) dX9_rigid_104 rfl ?_
      refine xn_lconst (q := 106) 1 dX9_rigid_105 rfl (by decide) ?_
      refine xn_iconst (q := 107) 0 dX9_rigid_106 rfl (by decide) ?_
      refine xn_lconst (q := 108) 0 dX9_rigid_107 rfl (by decide) ?_
      refine x_iload_n (q := 109) dX9_rigid_108 rfl rfl ?_
      refine m_call (q := 112) (As := [_, _, _, _, _]) hM imX9_isFree ivX9_isFree ilX9_isFree mwX9_248 xciX9 dX9_rigid_109 rfl rfl rfl (Nat.le_of_ble_eq_true rfl) ?_
      have qf1 := hok.2.2 (2 * k) (0) (1) (0) (by omega) (by omega) (by omega) (by omega) (by omega) (by omega)
      refine (c_isFree G l o as M0 N S d σ' (2 * k) (0) _ _ (1) (0) (lN_i' _) (lN_i' _) (by omega) (by omega) K (liN c) (by omega) (by omega) (liR c) hl qf1.1 qf1.2).mono (fun x σf1 hp => ?_)
      obtain ⟨rfl, wf1, lf1⟩ := hp
      intro M hM
      have of1 : onlyR σ σf1 := (ho).trans wf1.r
      have tf1 : σf1.1 23 = bI true := by rw [wf1.1 23 (by decide)]; exact h23
      have xf1 := Lse.eq hx0 (wf1.1 27 (by decide)) (by rw [wf1.2.1])
      have zf1 : σf1.2.1 = σ'.2.1 := wf1.2.1.trans rfl
      have gf1 : freeF c (2 * k) (1) (0) (0) = decide (K < rkN (addL (liR c) (liN c) (lineV (2 * k) (1) (0) (0) 0 0)) (liN c + 1)) := by unfold freeF; rw [hK]
      rw [← gf1]
      show xX G l _ (d + 4) _ _ _ [.int (bI (freeF c (2 * k) (1) (0) (0)))] M N S
      refine x_goto 136 dX9_rigid_112 (by decide) ?_
      refine x_istore (q := 138) (ls' := [(0, _), (1, _), (2, _), (3, _), (4, _), (5, _)]) [1, 2, 3, 4, 5, 0] dX9_rigid_136 rfl (by decide) rfl ?_
      refine x_iload (q := 140) dX9_rigid_138 rfl rfl ?_
      refine x_if_ne (q := 143) 175 dX9_rigid_140 (by decide) rfl (fun hc140 => ?_) (fun hc140 => ?_)
      · refine xn_iconst (q := 176) 1 dX9_rigid_175 rfl (by decide) ?_
        refine x_goto 180 dX9_rigid_176 (by decide) ?_
        refine x_istore (q := 182) (ls' := [(0, _), (1, _), (2, _), (3, _), (4, _), (5, _)]) [1, 2, 3, 4, 5, 0] dX9_rigid_180 rfl (by decide) rfl ?_
        refine x_iload (q := 184) dX9_rigid_182 rfl rfl ?_
        refine xn_if_ne (q := 187) 218 dX9_rigid_184 (by decide) rfl (by omega) (fun hc184 => ?_) (fun hc184 => absurd hc184 (by decide))
        refine xn_iconst (q := 219) 1 dX9_rigid_218 rfl (by decide) ?_
        refine x_goto 223 dX9_rigid_219 (by decide) ?_
        refine x_istore (q := 225) (ls' := [(0, _), (1, _), (2, _), (3, _), (4, _), (5, _)]) [1, 2, 3, 4, 5, 0] dX9_rigid_223 rfl (by decide) rfl ?_
        refine fin σf1 M true ?_ of1 tf1 lf1 xf1 hM _ _
        unfold freeP
        simp only [h0, hR0, hl0, hg0, decide_true, decide_false, if_true, if_false, reduceIte, Bool.not_true, Bool.not_false, Bool.and_true, Bool.true_and, Bool.and_false, Bool.false_and, Bool.or_false, Bool.false_or]
        try rw [show freeF c (2 * k) (1) (0) (0) = true from bI_ne.mp hc140]
        try rw [show freeF c (2 * k) (1) (0) (0) = false from bI_eq.mp hc140]
        try rw [show freeF c (2 * k - 2 + 1) (1) (0) (0) = true from bI_ne.mp hc172]
        try rw [show freeF c (2 * k - 2 + 1) (1) (0) (0) = false from bI_eq.mp hc172]
        try simp only [Bool.true_or, Bool.or_true, Bool.or_false, Bool.false_or]
      · refine x_iload_n (q := 144) dX9_rigid_143 rfl rfl ?_
        refine xn_if_le (q := 147) 179 dX9_rigid_144 (by decide) rfl (by omega) (fun hc144 => absurd hc144 (by omega)) (fun hc144 => ?_)
        refine x_aload_n (q := 148) dX9_rigid_147 rfl rfl ?_
        refine m_get (q := 151) hM 6 fwX9_19 (by decide) dX9_rigid_148 rfl rfl ?_
        refine xn_iconst (q := 152) 2 dX9_rigid_151 rfl (by decide) ?_
        refine x_iload_n (q := 153) dX9_rigid_152 rfl rfl ?_
        refine xn_imul (q := 154) dX9_rigid_153 rfl ?_
        refine xn_iconst (q := 155) 1 dX9_rigid_154 rfl (by decide) ?_
        refine xn_isub (q := 156) dX9_rigid_155 rfl (by omega) ?_
        refine m_zald (q := 157) hM (n := 6) (by decide) dX9_rigid_156 rfl (by omega) ?_
        rw [zf1, hHl, hl0]
        refine x_if_ne (q := 160) 179 dX9_rigid_157 (by decide) rfl (fun hc157 => absurd hc157 (by decide)) (fun hc157 => ?_)
        refine x_aload_n (q := 161) dX9_rigid_160 rfl rfl ?_
        refine x_iload (q := 163) dX9_rigid_161 rfl rfl ?_
        refine xn_iconst (q := 164) 1 dX9_rigid_163 rfl (by decide) ?_
        refine xn_iadd (q := 165) dX9_rigid_164 rfl ?_
        refine xn_lconst (q := 166) 1 dX9_rigid_165 rfl (by decide) ?_
        refine xn_iconst (q := 167) 0 dX9_rigid_166 rfl (by decide) ?_
        refine xn_lconst (q := 168) 0 dX9_rigid_167 rfl (by decide) ?_
        refine x_iload_n (q := 169) dX9_rigid_168 rfl rfl ?_
        refine m_call (q := 172) (As := [_, _, _, _, _]) hM imX9_isFree ivX9_isFree ilX9_isFree mwX9_248 xciX9 dX9_rigid_169 rfl rfl rfl (Nat.le_of_ble_eq_true rfl) ?_
        have qf2 := hok.2.2 (2 * k - 2 + 1) (0) (1) (0) (by omega) (by omega) (by omega) (by omega) (by omega) (by omega)
        refine (c_isFree G l o as M0 N S d σf1 (2 * k - 2 + 1) (0) _ _ (1) (0) (lN_i' _) (lN_i' _) (by omega) (by omega) K (liN c) (by omega) (by omega) (liR c) lf1 qf2.1 qf2.2).mono (fun x σf2 hp => ?_)
        obtain ⟨rfl, wf2, lf2⟩ := hp
        intro M hM
        have of2 : onlyR σ σf2 := (of1).trans wf2.r
        have tf2 : σf2.1 23 = bI true := by rw [wf2.1 23 (by decide)]; exact tf1
        have xf2 := Lse.eq xf1 (wf2.1 27 (by decide)) (by rw [wf2.2.1])
        have zf2 : σf2.2.1 = σ'.2.1 := wf2.2.1.trans zf1
        have gf2 : freeF c (2 * k - 2 + 1) (1) (0) (0) = decide (K < rkN (addL (liR c) (liN c) (lineV (2 * k - 2 + 1) (1) (0) (0) 0 0)) (liN c + 1)) := by unfold freeF; rw [hK]
        rw [← gf2]
        show xX G l _ (d + 4) _ _ _ [.int (bI (freeF c (2 * k - 2 + 1) (1) (0) (0)))] M N S
        refine x_if_eq (q := 175) 179 dX9_rigid_172 (by decide) rfl (fun hc172 => ?_) (fun hc172 => ?_)
        · refine xn_iconst (q := 180) 0 dX9_rigid_179 rfl (by decide) ?_
          refine x_istore (q := 182) (ls' := [(0, _), (1, _), (2, _), (3, _), (4, _), (5, _)]) [1, 2, 3, 4, 5, 0] dX9_rigid_180 rfl (by decide) rfl ?_
          refine x_iload (q := 184) dX9_rigid_182 rfl rfl ?_
          refine xn_if_ne (q := 187) 218 dX9_rigid_184 (by decide) rfl (by omega) (fun hc184 => absurd hc184 (by decide)) (fun hc184 => ?_)
          refine x_iload_n (q := 188) dX9_rigid_187 rfl rfl ?_
          refine xn_if_eq (q := 191) 222 dX9_rigid_188 (by decide) rfl (by omega) (fun hc188 => absurd hc188 (by decide)) (fun hc188 => ?_)
          refine x_aload_n (q := 192) dX9_rigid_191 rfl rfl ?_
          refine m_get (q := 195) hM 6 fwX9_19 (by decide) dX9_rigid_192 rfl rfl ?_
          refine xn_iconst (q := 196) 2 dX9_rigid_195 rfl (by decide) ?_
          refine x_iload_n (q := 197) dX9_rigid_196 rfl rfl ?_
          refine xn_imul (q := 198) dX9_rigid_197 rfl ?_
          refine m_zald (q := 199) hM (n := 6) (by decide) dX9_rigid_198 rfl (by omega) ?_
          rw [zf2, hHr hR0, hg0]
          refine x_if_ne (q := 202) 222 dX9_rigid_199 (by decide) rfl (fun hc199 => ?_) (fun hc199 => absurd hc199 (by decide))
          refine xn_iconst (q := 223) 0 dX9_rigid_222 rfl (by decide) ?_
          refine x_istore (q := 225) (ls' := [(0, _), (1, _), (2, _), (3, _), (4, _), (5, _)]) [1, 2, 3, 4, 5, 0] dX9_rigid_223 rfl (by decide) rfl ?_
          refine fin σf2 M false ?_ of2 tf2 lf2 xf2 hM _ _
          unfold freeP
          simp only [h0, hR0, hl0, hg0, decide_true, decide_false, if_true, if_false, reduceIte, Bool.not_true, Bool.not_false, Bool.and_true, Bool.true_and, Bool.and_false, Bool.false_and, Bool.or_false, Bool.false_or]
          try rw [show freeF c (2 * k) (1) (0) (0) = true from bI_ne.mp hc140]
          try rw [show freeF c (2 * k) (1) (0) (0) = false from bI_eq.mp hc140]
          try rw [show freeF c (2 * k - 2 + 1) (1) (0) (0) = true from bI_ne.mp hc172]
          try rw [show freeF c (2 * k - 2 + 1) (1) (0) (0) = false from bI_eq.mp hc172]
          try simp only [Bool.true_or, Bool.or_true, Bool.or_false, Bool.false_or]
        · refine xn_iconst (q := 176) 1 dX9_rigid_175 rfl (by decide) ?_
          refine x_goto 180 dX9_rigid_176 (by decide) ?_
          refine x_istore (q := 182) (ls' := [(0, _), (1, _), (2, _), (3, _), (4, _), (5, _)]) [1, 2, 3, 4, 5, 0] dX9_rigid_180 rfl (by decide) rfl ?_
          refine x_iload (q := 184) dX9_rigid_182 rfl rfl ?_
          refine xn_if_ne (q := 187) 218 dX9_rigid_184 (by decide) rfl (by omega) (fun hc184 => ?_) (fun hc184 => absurd hc184 (by decide))
          refine xn_iconst (q := 219) 1 dX9_rigid_218 rfl (by decide) ?_
          refine x_goto 223 dX9_rigid_219 (by decide) ?_
          refine x_istore (q := 225) (ls' := [(0, _), (1, _), (2, _), (3, _), (4, _), (5, _)]) [1, 2, 3, 4, 5, 0] dX9_rigid_223 rfl (by decide) rfl ?_
          refine fin σf2 M true ?_ of2 tf2 lf2 xf2 hM _ _
          unfold freeP
          simp only [h0, hR0, hl0, hg0, decide_true, decide_false, if_true, if_false, reduceIte, Bool.not_true, Bool.not_false, Bool.and_true, Bool.true_and, Bool.and_false, Bool.false_and, Bool.or_false, Bool.false_or]
          try rw [show freeF c (2 * k) (1) (0) (0) = true from bI_ne.mp hc140]
          try rw [show freeF c (2 * k) (1) (0) (0) = false from bI_eq.mp hc140]
          try rw [show freeF c (2 * k - 2 + 1) (1) (0) (0) = true from bI_ne.mp hc172]
          try rw [show freeF c (2 * k - 2 + 1) (1) (0) (0) = false from bI_eq.mp hc172]
          try simp only [Bool.true_or, Bool.or_true, Bool.or_false, Bool.false_or]
    · refine x_iload_n (q := 62) dX9_rigid_61 rfl rfl ?_
      refine x_aload_n (q := 63) dX9_rigid_62 rfl rfl ?_
      refine m_get (q := 66) hM 3 fwX9_93 (by decide) dX9_rigid_63 rfl rfl ?_
      rw [hm]
      refine xn_icmp_gt (q := 69) 256 dX9_rigid_66 (by decide) rfl (by omega) (by omega) (fun hc66 => absurd hc66 (by omega)) (fun hc66 => ?_)
      refine x_aload_n (q := 70) dX9_rigid_69 rfl rfl ?_
      refine m_get (q := 73) hM 23 fwX9_212 (by decide) dX9_rigid_70 rfl rfl ?_
      rw [h23]
      refine x_if_eq (q := 76) 256 dX9_rigid_73 (by decide) rfl (fun hc73 => absurd hc73 (by decide)) (fun hc73 => ?_)
      refine x_iload_n (q := 77) dX9_rigid_76 rfl rfl ?_
      refine x_aload_n (q := 78) dX9_rigid_77 rfl rfl ?_
      refine m_get (q := 81) hM 3 fwX9_93 (by decide) dX9_rigid_78 rfl rfl ?_
      rw [hm]
      refine xn_icmp_ge (q := 84) 88 dX9_rigid_81 (by decide) rfl (by omega) (by omega) (fun hc81 => absurd hc81 (by omega)) (fun hc81 => ?_)
      refine xn_iconst (q := 85) 1 dX9_rigid_84 rfl (by decide) ?_
      refine x_goto 89 dX9_rigid_85 (by decide) ?_
      refine x_istore_n (q := 90) (ls' := [(0, _), (1, _), (2, _), (3, _)]) [1, 2, 3, 0] dX9_rigid_89 rfl (by decide) rfl ?_
      refine xn_iconst (q := 91) 2 dX9_rigid_90 rfl (by decide) ?_
      refine x_iload_n (q := 92) dX9_rigid_91 rfl rfl ?_
      refine xn_imul (q := 93) dX9_rigid_92 rfl ?_
      refine xn_iconst (q := 94) 2 dX9_rigid_93 rfl (by decide) ?_
      refine xn_isub (q := 95) dX9_rigid_94 rfl (by omega) ?_
      refine x_istore (q := 97) (ls' := [(0, _), (1, _), (2, _), (3, _), (4, _)]) [1, 2, 3, 4, 0] dX9_rigid_95 rfl (by decide) rfl ?_
      refine x_iload_n (q := 98) dX9_rigid_97 rfl rfl ?_
      refine xn_if_eq (q := 101) 115 dX9_rigid_98 (by decide) rfl (by omega) (fun hc98 => absurd hc98 (by decide)) (fun hc98 => ?_)
      refine x_aload_n (q := 102) dX9_rigid_101 rfl rfl ?_
      refine xn_iconst (q := 103) 2 dX9_rigid_102 rfl (by decide) ?_
      refine x_iload_n (q := 104) dX9_rigid_103 rfl rfl ?_
      refine xn_imul (q := 105) dX9_rigid_104 rfl ?_
      refine xn_lconst (q := 106) 1 dX9_rigid_105 rfl (by decide) ?_
      refine xn_iconst (q := 107) 0 dX9_rigid_106 rfl (by decide) ?_
      refine xn_lconst (q := 108) 0 dX9_rigid_107 rfl (by decide) ?_
      refine x_iload_n (q := 109) dX9_rigid_108 rfl rfl ?_
      refine m_call (q := 112) (As := [_, _, _, _, _]) hM imX9_isFree ivX9_isFree ilX9_isFree mwX9_248 xciX9 dX9_rigid_109 rfl rfl rfl (Nat.le_of_ble_eq_true rfl) ?_
      have qf1 := hok.2.2 (2 * k) (0) (1) (0) (by omega) (by omega) (by omega) (by omega) (by omega) (by omega)
      refine (c_isFree G l o as M0 N S d σ' (2 * k) (0) _ _ (1) (0) (lN_i' _) (lN_i' _) (by omega) (by omega) K (liN c) (by omega) (by omega) (liR c) hl qf1.1 qf1.2).mono (fun x σf1 hp => ?_)
      obtain ⟨rfl, wf1, lf1⟩ := hp
      intro M hM
      have of1 : onlyR σ σf1 := (ho).trans wf1.r
      have tf1 : σf1.1 23 = bI true := by rw [wf1.1 23 (by decide)]; exact h23
      have xf1 := Lse.eq hx0 (wf1.1 27 (by decide)) (by rw [wf1.2.1])
      have zf1 : σf1.2.1 = σ'.2.1 := wf1.2.1.trans rfl
      have gf1 : freeF c (2 * k) (1) (0) (0) = decide (K < rkN (addL (liR c) (liN c) (lineV (2 * k) (1) (0) (0) 0 0)) (liN c + 1)) := by unfold freeF; rw [hK]
      rw [← gf1]
      show xX G l _ (d + 4) _ _ _ [.int (bI (freeF c (2 * k) (1) (0) (0)))] M N S
      refine x_goto 136 dX9_rigid_112 (by decide) ?_
      refine x_istore (q := 138) (ls' := [(0, _), (1, _), (2, _), (3, _), (4, _), (5, _)]) [1, 2, 3, 4, 5, 0] dX9_rigid_136 rfl (by decide) rfl ?_
      refine x_iload (q := 140) dX9_rigid_138 rfl rfl ?_
      refine x_if_ne (q := 143) 175 dX9_rigid_140 (by decide) rfl (fun hc140 => ?_) (fun hc140 => ?_)
      · refine xn_iconst (q := 176) 1 dX9_rigid_175 rfl (by decide) ?_
        refine x_goto 180 dX9_rigid_176 (by decide) ?_
        refine x_istore (q := 182) (ls' := [(0, _), (1, _), (2, _), (3, _), (4, _), (5, _)]) [1, 2, 3, 4, 5, 0] dX9_rigid_180 rfl (by decide) rfl ?_
        refine x_iload (q := 184) dX9_rigid_182 rfl rfl ?_
        refine xn_if_ne (q := 187) 218 dX9_rigid_184 (by decide) rfl (by omega) (fun hc184 => ?_) (fun hc184 => absurd hc184 (by decide))
        refine xn_iconst (q := 219) 1 dX9_rigid_218 rfl (by decide) ?_
        refine x_goto 223 dX9_rigid_219 (by decide) ?_
        refine x_istore (q := 225) (ls' := [(0, _), (1, _), (2, _), (3, _), (4, _), (5, _)]) [1, 2, 3, 4, 5, 0] dX9_rigid_223 rfl (by decide) rfl ?_
        refine fin σf1 M true ?_ of1 tf1 lf1 xf1 hM _ _
        unfold freeP
        simp only [h0, hR0, hl0, hg0, decide_true, decide_false, if_true, if_false, reduceIte, Bool.not_true, Bool.not_false, Bool.and_true, Bool.true_and, Bool.and_false, Bool.false_and, Bool.or_false, Bool.false_or]
        try rw [show freeF c (2 * k) (1) (0) (0) = true from bI_ne.mp hc140]
        try rw [show freeF c (2 * k) (1) (0) (0) = false from bI_eq.mp hc140]
        try rw [show freeF c (2 * k + 1) (1) (0) (0) = true from bI_ne.mp hc215]
        try rw [show freeF c (2 * k + 1) (1) (0) (0) = false from bI_eq.mp hc215]
        try simp only [Bool.true_or, Bool.or_true, Bool.or_false, Bool.false_or]
      · refine x_iload_n (q := 144) dX9_rigid_143 rfl rfl ?_
        refine xn_if_le (q := 147) 179 dX9_rigid_144 (by decide) rfl (by omega) (fun hc144 => absurd hc144 (by omega)) (fun hc144 => ?_)
        refine x_aload_n (q := 148) dX9_rigid_147 rfl rfl ?_
        refine m_get (q := 151) hM 6 fwX9_19 (by decide) dX9_rigid_148 rfl rfl ?_
        refine xn_iconst (q := 152) 2 dX9_rigid_151 rfl (by decide) ?_
        refine x_iload_n (q := 153) dX9_rigid_152 rfl rfl ?_
        refine xn_imul (q := 154) dX9_rigid_153 rfl ?_
        refine xn_iconst (q := 155) 1 dX9_rigid_154 rfl (by decide) ?_
        refine xn_isub (q := 156) dX9_rigid_155 rfl (by omega) ?_
        refine m_zald (q := 157) hM (n := 6) (by decide) dX9_rigid_156 rfl (by omega) ?_
        rw [zf1, hHl, hl0]
        refine x_if_ne (q := 160) 179 dX9_rigid_157 (by decide) rfl (fun hc157 => ?_) (fun hc157 => absurd hc157 (by decide))
        refine xn_iconst (q := 180) 0 dX9_rigid_179 rfl (by decide) ?_
        refine x_istore (q := 182) (ls' := [(0, _), (1, _), (2, _), (3, _), (4, _), (5, _)]) [1, 2, 3, 4, 5, 0] dX9_rigid_180 rfl (by decide) rfl ?_
        refine x_iload (q := 184) dX9_rigid_182 rfl rfl ?_
        refine xn_if_ne (q := 187) 218 dX9_rigid_184 (by decide) rfl (by omega) (fun hc184 => absurd hc184 (by decide)) (fun hc184 => ?_)
        refine x_iload_n (q := 188) dX9_rigid_187 rfl rfl ?_
        refine xn_if_eq (q := 191) 222 dX9_rigid_188 (by decide) rfl (by omega) (fun hc188 => absurd hc188 (by decide)) (fun hc188 => ?_)
        refine x_aload_n (q := 192) dX9_rigid_191 rfl rfl ?_
        refine m_get (q := 195) hM 6 fwX9_19 (by decide) dX9_rigid_192 rfl rfl ?_
        refine xn_iconst (q := 196) 2 dX9_rigid_195 rfl (by decide) ?_
        refine x_iload_n (q := 197) dX9_rigid_196 rfl rfl ?_
        refine xn_imul (q := 198) dX9_rigid_197 rfl ?_
        refine m_zald (q := 199) hM (n := 6) (by decide) dX9_rigid_198 rfl (by omega) ?_
        rw [zf1, hHr hR0, hg0]
        refine x_if_ne (q := 202) 222 dX9_rigid_199 (by decide) rfl (fun hc199 => absurd hc199 (by decide)) (fun hc199 => ?_)
        refine x_aload_n (q := 203) dX9_rigid_202 rfl rfl ?_
        refine xn_iconst (q := 204) 2 dX9_rigid_203 rfl (by decide) ?_
        refine x_iload_n (q := 205) dX9_rigid_204 rfl rfl ?_
        refine xn_imul (q := 206) dX9_rigid_205 rfl ?_
        refine xn_iconst (q := 207) 1 dX9_rigid_206 rfl (by decide) ?_
        refine xn_iadd (q := 208) dX9_rigid_207 rfl ?_
        refine xn_lconst (q := 209) 1 dX9_rigid_208 rfl (by decide) ?_
        refine xn_iconst (q := 210) 0 dX9_rigid_209 rfl (by decide) ?_
        refine xn_lconst (q := 211) 0 dX9_rigid_210 rfl (by decide) ?_
        refine x_iload_n (q := 212) dX9_rigid_211 rfl rfl ?_
        refine m_call (q := 215) (As := [_, _, _, _, _]) hM imX9_isFree ivX9_isFree ilX9_isFree mwX9_248 xciX9 dX9_rigid_212 rfl rfl rfl (Nat.le_of_ble_eq_true rfl) ?_
        have qf2 := hok.2.2 (2 * k + 1) (0) (1) (0) (by omega) (by omega) (by omega) (by omega) (by omega) (by omega)
        refine (c_isFree G l o as M0 N S d σf1 (2 * k + 1) (0) _ _ (1) (0) (lN_i' _) (lN_i' _) (by omega) (by omega) K (liN c) (by omega) (by omega) (liR c) lf1 qf2.1 qf2.2).mono (fun x σf2 hp => ?_)
        obtain ⟨rfl, wf2, lf2⟩ := hp
        intro M hM
        have of2 : onlyR σ σf2 := (of1).trans wf2.r
        have tf2 : σf2.1 23 = bI true := by rw [wf2.1 23 (by decide)]; exact tf1
        have xf2 := Lse.eq xf1 (wf2.1 27 (by decide)) (by rw [wf2.2.1])
        have zf2 : σf2.2.1 = σ'.2.1 := wf2.2.1.trans zf1
        have gf2 : freeF c (2 * k + 1) (1) (0) (0) = decide (K < rkN (addL (liR c) (liN c) (lineV (2 * k + 1) (1) (0) (0) 0 0)) (liN c + 1)) := by unfold freeF; rw [hK]
        rw [← gf2]
        show xX G l _ (d + 4) _ _ _ [.int (bI (freeF c (2 * k + 1) (1) (0) (0)))] M N S
        refine x_if_eq (q := 218) 222 dX9_rigid_215 (by decide) rfl (fun hc215 => ?_) (fun hc215 => ?_)
        · refine xn_iconst (q := 223) 0 dX9_rigid_222 rfl (by decide) ?_
          refine x_istore (q := 225) (ls' := [(0, _), (1, _), (2, _), (3, _), (4, _), (5, _)]) [1, 2, 3, 4, 5, 0] dX9_rigid_223 rfl (by decide) rfl ?_
          refine fin σf2 M false ?_ of2 tf2 lf2 xf2 hM _ _
          unfold freeP
          simp only [h0, hR0, hl0, hg0, decide_true, decide_false, if_true, if_false, reduceIte, Bool.not_true, Bool.not_false, Bool.and_true, Bool.true_and, Bool.and_false, Bool.false_and, Bool.or_false, Bool.false_or]
          try rw [show freeF c (2 * k) (1) (0) (0) = true from bI_ne.mp hc140]
          try rw [show freeF c (2 * k) (1) (0) (0) = false from bI_eq.mp hc140]
          try rw [show freeF c (2 * k + 1) (1) (0) (0) = true from bI_ne.mp hc215]
          try rw [show freeF c (2 * k + 1) (1) (0) (0) = false from bI_eq.mp hc215]
          try simp only [Bool.true_or, Bool.or_true, Bool.or_false, Bool.false_or]
        · refine xn_iconst (q := 219) 1 dX9_rigid_218 rfl (by decide) ?_
          refine x_goto 223 dX9_rigid_219 (by decide) ?_
          refine x_istore (q := 225) (ls' := [(0, _), (1, _), (2, _), (3, _), (4, _), (5, _)]) [1, 2, 3, 4, 5, 0] dX9_rigid_223 rfl (by decide) rfl ?_
          refine fin σf2 M true ?_ of2 tf2 lf2 xf2 hM _ _
          unfold freeP
          simp only [h0, hR0, hl0, hg0, decide_true, decide_false, if_true, if_false, reduceIte, Bool.not_true, Bool.not_false, Bool.and_true, Bool.true_and, Bool.and_false, Bool.false_and, Bool.or_false, Bool.false_or]
          try rw [show freeF c (2 * k) (1) (0) (0) = true from bI_ne.mp hc140]
          try rw [show freeF c (2 * k) (1) (0) (0) = false from bI_eq.mp hc140]
          try rw [show freeF c (2 * k + 1) (1) (0) (0) = true from bI_ne.mp hc215]
          try rw [show freeF c (2 * k + 1) (1) (0) (0) = false from bI_eq.mp hc215]
          try simp only [Bool.true_or, Bool.or_true, Bool.or_false, Bool.false_or]
    · refine x_iload_n (q := 62) dX9_rigid_61 rfl rfl ?_
      refine x_aload_n (q := 63) dX9_rigid_62 rfl rfl ?_
      refine m_get (q := 66) hM 3 fwX9_93 (by decide) dX9_rigid_63 rfl rfl ?_
      rw [hm]
      refine xn_icmp_gt (q := 69) 256 dX9_rigid_66 (by decide) rfl (by omega) (by omega) (fun hc66 => absurd hc66 (by omega)) (fun hc66 => ?_)
      refine x_aload_n (q := 70) dX9_rigid_69 rfl rfl ?_
      refine m_get (q := 73) hM 23 fwX9_212 (by decide) dX9_rigid_70 rfl rfl ?_
      rw [h23]
      refine x_if_eq (q := 76) 256 dX9_rigid_73 (by decide) rfl (fun hc73 => absurd hc73 (by decide)) (fun hc73 => ?_)
      refine x_iload_n (q := 77) dX9_rigid_76 rfl rfl ?_
      refine x_aload_n (q := 78) dX9_rigid_77 rfl rfl ?_
      refine m_get (q := 81) hM 3 fwX9_93 (by decide) dX9_rigid_78 rfl rfl ?_
      rw [hm]
      refine xn_icmp_ge (q := 84) 88 dX9_rigid_81 (by decide) rfl (by omega) (by omega) (fun hc81 => absurd hc81 (by omega)) (fun hc81 => ?_)
      refine xn_iconst (q := 85) 1 dX9_rigid_84 rfl (by decide) ?_
      refine x_goto 89 dX9_rigid_85 (by decide) ?_
      refine x_istore_n (q := 90) (ls' := [(0, _), (1, _), (2, _), (3, _)]) [1, 2, 3, 0] dX9_rigid_89 rfl (by decide) rfl ?_
      refine xn_iconst (q := 91) 2 dX9_rigid_90 rfl (by decide) ?_
      refine x_iload_n (q := 92) dX9_rigid_91 rfl rfl ?_
      refine xn_imul (q := 93) dX9_rigid_92 rfl ?_
      refine xn_iconst (q := 94) 2 dX9_rigid_93 rfl (by decide) ?_
      refine xn_isub (q := 95) dX9_rigid_94 rfl (by omega) ?_
      refine x_istore (q := 97) (ls' := [(0, _), (1, _), (2, _), (3, _), (4, _)]) [1, 2, 3, 4, 0] dX9_rigid_95 rfl (by decide) rfl ?_
      refine x_iload_n (q := 98) dX9_rigid_97 rfl rfl ?_
      refine xn_if_eq (q := 101) 115 dX9_rigid_98 (by decide) rfl (by omega) (fun hc98 => absurd hc98 (by decide)) (fun hc98 => ?_)
      refine x_aload_n (q := 102) dX9_rigid_101 rfl rfl ?_
      refine xn_iconst (q := 103) 2 dX9_rigid_102 rfl (by decide) ?_
      refine x_iload_n (q := 104) dX9_rigid_103 rfl rfl ?_
      refine xn_imul (q := 105) dX9_rigid_104 rfl ?_
      refine xn_lconst (q := 106) 1 dX9_rigid_105 rfl (by decide) ?_
      refine xn_iconst (q := 107) 0 dX9_rigid_106 rfl (by decide) ?_
      refine xn_lconst (q := 108) 0 dX9_rigid_107 rfl (by decide) ?_
      refine x_iload_n (q := 109) dX9_rigid_108 rfl rfl ?_
      refine m_call (q := 112) (As := [_, _, _, _, _]) hM imX9_isFree ivX9_isFree ilX9_isFree mwX9_248 xciX9 dX9_rigid_109 rfl rfl rfl (Nat.le_of_ble_eq_true rfl) ?_
      have qf1 := hok.2.2 (2 * k) (0) (1) (0) (by omega) (by omega) (by omega) (by omega) (by omega) (by omega)
      refine (c_isFree G l o as M0 N S d σ' (2 * k) (0) _ _ (1) (0) (lN_i' _) (lN_i' _) (by omega) (by omega) K (liN c) (by omega) (by omega) (liR c) hl qf1.1 qf1.2).mono (fun x σf1 hp => ?_)
      obtain ⟨rfl, wf1, lf1⟩ := hp
      intro M hM
      have of1 : onlyR σ σf1 := (ho).trans wf1.r
      have tf1 : σf1.1 23 = bI true := by rw [wf1.1 23 (by decide)]; exact h23
      have xf1 := Lse.eq hx0 (wf1.1 27 (by decide)) (by rw [wf1.2.1])
      have zf1 : σf1.2.1 = σ'.2.1 := wf1.2.1.trans rfl
      have gf1 : freeF c (2 * k) (1) (0) (0) = decide (K < rkN (addL (liR c) (liN c) (lineV (2 * k) (1) (0) (0) 0 0)) (liN c + 1)) := by unfold freeF; rw [hK]
      rw [← gf1]
      show xX G l _ (d + 4) _ _ _ [.int (bI (freeF c (2 * k) (1) (0) (0)))] M N S
      refine x_goto 136 dX9_rigid_112 (by decide) ?_
      refine x_istore (q := 138) (ls' := [(0, _), (1, _), (2, _), (3, _), (4, _), (5, _)]) [1, 2, 3, 4, 5, 0] dX9_rigid_136 rfl (by decide) rfl ?_
      refine x_iload (q := 140) dX9_rigid_138 rfl rfl ?_
      refine x_if_ne (q := 143) 175 dX9_rigid_140 (by decide) rfl (fun hc140 => ?_) (fun hc140 => ?_)
      · refine xn_iconst (q := 176) 1 dX9_rigid_175 rfl (by decide) ?_
        refine x_goto 180 dX9_rigid_176 (by decide) ?_
        refine x_istore (q := 182) (ls' := [(0, _), (1, _), (2, _), (3, _), (4, _), (5, _)]) [1, 2, 3, 4, 5, 0] dX9_rigid_180 rfl (by decide) rfl ?_
        refine x_iload (q := 184) dX9_rigid_182 rfl rfl ?_
        refine xn_if_ne (q := 187) 218 dX9_rigid_184 (by decide) rfl (by omega) (fun hc184 => ?_) (fun hc184 => absurd hc184 (by decide))
        refine xn_iconst (q := 219) 1 dX9_rigid_218 rfl (by decide) ?_
        refine x_goto 223 dX9_rigid_219 (by decide) ?_
        refine x_istore (q := 225) (ls' := [(0, _), (1, _), (2, _), (3, _), (4, _), (5, _)]) [1, 2, 3, 4, 5, 0] dX9_rigid_223 rfl (by decide) rfl ?_
        refine fin σf1 M true ?_ of1 tf1 lf1 xf1 hM _ _
        unfold freeP
        simp only [h0, hR0, hl0, hg0, decide_true, decide_false, if_true, if_false, reduceIte, Bool.not_true, Bool.not_false, Bool.and_true, Bool.true_and, Bool.and_false, Bool.false_and, Bool.or_false, Bool.false_or]
        try rw [show freeF c (2 * k) (1) (0) (0) = true from bI_ne.mp hc140]
        try rw [show freeF c (2 * k) (1) (0) (0) = false from bI_eq.mp hc140]
        try simp only [Bool.true_or, Bool.or_true, Bool.or_false, Bool.false_or]
      · refine x_iload_n (q := 144) dX9_rigid_143 rfl rfl ?_
        refine xn_if_le (q := 147) 179 dX9_rigid_144 (by decide) rfl (by omega) (fun hc144 => absurd hc144 (by omega)) (fun hc144 => ?_)
        refine x_aload_n (q := 148) dX9_rigid_147 rfl rfl ?_
        refine m_get (q := 151) hM 6 fwX9_19 (by decide) dX9_rigid_148 rfl rfl ?_
        refine xn_iconst (q := 152) 2 dX9_rigid_151 rfl (by decide) ?_
        refine x_iload_n (q := 153) dX9_rigid_152 rfl rfl ?_
        refine xn_imul (q := 154) dX9_rigid_153 rfl ?_
        refine xn_iconst (q := 155) 1 dX9_rigid_154 rfl (by decide) ?_
        refine xn_isub (q := 156) dX9_rigid_155 rfl (by omega) ?_
        refine m_zald (q := 157) hM (n := 6) (by decide) dX9_rigid_156 rfl (by omega) ?_
        rw [zf1, hHl, hl0]
        refine x_if_ne (q := 160) 179 dX9_rigid_157 (by decide) rfl (fun hc157 => ?_) (fun hc157 => absurd hc157 (by decide))
        refine xn_iconst (q := 180) 0 dX9_rigid_179 rfl (by decide) ?_
        refine x_istore (q := 182) (ls' := [(0, _), (1, _), (2, _), (3, _), (4, _), (5, _)]) [1, 2, 3, 4, 5, 0] dX9_rigid_180 rfl (by decide) rfl ?_
        refine x_iload (q := 184) dX9_rigid_182 rfl rfl ?_
        refine xn_if_ne (q := 187) 218 dX9_rigid_184 (by decide) rfl (by omega) (fun hc184 => absurd hc184 (by decide)) (fun hc184 => ?_)
        refine x_iload_n (q := 188) dX9_rigid_187 rfl rfl ?_
        refine xn_if_eq (q := 191) 222 dX9_rigid_188 (by decide) rfl (by omega) (fun hc188 => absurd hc188 (by decide)) (fun hc188 => ?_)
        refine x_aload_n (q := 192) dX9_rigid_191 rfl rfl ?_
        refine m_get (q := 195) hM 6 fwX9_19 (by decide) dX9_rigid_192 rfl rfl ?_
        refine xn_iconst (q := 196) 2 dX9_rigid_195 rfl (by decide) ?_
        refine x_iload_n (q := 197) dX9_rigid_196 rfl rfl ?_
        refine xn_imul (q := 198) dX9_rigid_197 rfl ?_
        refine m_zald (q := 199) hM (n := 6) (by decide) dX9_rigid_198 rfl (by omega) ?_
        rw [zf1, hHr hR0, hg0]
        refine x_if_ne (q := 202) 222 dX9_rigid_199 (by decide) rfl (fun hc199 => ?_) (fun hc199 => absurd hc199 (by decide))
        refine xn_iconst (q := 223) 0 dX9_rigid_222 rfl (by decide) ?_
        refine x_istore (q := 225) (ls' := [(0, _), (1, _), (2, _), (3, _), (4, _), (5, _)]) [1, 2, 3, 4, 5, 0] dX9_rigid_223 rfl (by decide) rfl ?_
        refine fin σf1 M false ?_ of1 tf1 lf1 xf1 hM _ _
        unfold freeP
        simp only [h0, hR0, hl0, hg0, decide_true, decide_false, if_true, if_false, reduceIte, Bool.not_true, Bool.not_false, Bool.and_true, Bool.true_and, Bool.and_false, Bool.false_and, Bool.or_false, Bool.false_or]
        try rw [show freeF c (2 * k) (1) (0) (0) = true from bI_ne.mp hc140]
        try rw [show freeF c (2 * k) (1) (0) (0) = false from bI_eq.mp hc140]
        try simp only [Bool.true_or, Bool.or_true, Bool.or_false, Bool.false_or]
  · cases hl0 : c.Hg (2 * k - 1)
    · refine x_iload_n (q := 62) dX9_rigid_61 rfl rfl ?_
      refine x_aload_n (q := 63) dX9_rigid_62 rfl rfl ?_
      refine m_get (q := 66) hM 3 fwX9_93 (by decide) dX9_rigid_63 rfl rfl ?_
      rw [hm]
      refine xn_icmp_gt (q := 69) 256 dX9_rigid_66 (by decide) rfl (by omega) (by omega) (fun hc66 => absurd hc66 (by omega)) (fun hc66 => ?_)
      refine x_aload_n (q := 70) dX9_rigid_69 rfl rfl ?_
      refine m_get (q := 73) hM 23 fwX9_212 (by decide) dX9_rigid_70 rfl rfl ?_
      rw [h23]
      refine x_if_eq (q := 76) 256 dX9_rigid_73 (by decide) rfl (fun hc73 => absurd hc73 (by decide)) (fun hc73 => ?_)
      refine x_iload_n (q := 77) dX9_rigid_76 rfl rfl ?_
      refine x_aload_n (q := 78) dX9_rigid_77 rfl rfl ?_
      refine m_get (q := 81) hM 3 fwX9_93 (by decide) dX9_rigid_78 rfl rfl ?_
      rw [hm]
      refine xn_icmp_ge (q := 84) 88 dX9_rigid_81 (by decide) rfl (by omega) (by omega) (fun hc81 => ?_) (fun hc81 => absurd hc81 (by omega))
      refine xn_iconst (q := 89) 0 dX9_rigid_88 rfl (by decide) ?_
      refine x_istore_n (q := 90) (ls' := [(0, _), (1, _), (2, _), (3, _)]) [1, 2, 3, 0] dX9_rigid_89 rfl (by decide) rfl ?_
      refine xn_iconst (q := 91) 2 dX9_rigid_90 rfl (by decide) ?_
      refine x_iload_n (q := 92) dX9_rigid_91 rfl rfl ?_
      refine xn_imul (q := 93) dX9_rigid_92 rfl ?_
      refine xn_iconst (q := 94) 2 dX9_rigid_93 rfl (by decide) ?_
      refine xn_isub (q := 95) dX9_rigid_94 rfl (by omega) ?_
      refine x_istore (q := 97) (ls' := [(0, _), (1, _), (2, _), (3, _), (4, _)]) [1, 2, 3, 4, 0] dX9_rigid_95 rfl (by decide) rfl ?_
      refine x_iload_n (q := 98) dX9_rigid_97 rfl rfl ?_
      refine xn_if_eq (q := 101) 115 dX9_rigid_98 (by decide) rfl (by omega) (fun hc98 => ?_) (fun hc98 => absurd hc98 (by decide))
      refine x_aload_n (q := 116) dX9_rigid_115 rfl rfl ?_
      refine x_iload (q := 118) dX9_rigid_116 rfl rfl ?_
      refine xn_lconst (q := 119) 1 dX9_rigid_118 rfl (by decide) ?_
      refine x_iload (q := 121) dX9_rigid_119 rfl rfl ?_
      refine xn_iconst (q := 122) 1 dX9_rigid_121 rfl (by decide) ?_
      refine xn_iadd (q := 123) dX9_rigid_122 rfl ?_
      refine x_aload_n (q := 124) dX9_rigid_123 rfl rfl ?_
      refine m_get (q := 127) hM 4 fwX9_13 (by decide) dX9_rigid_124 rfl rfl ?_
      refine x_iload_n (q := 128) dX9_rigid_127 rfl rfl ?_
      refine xn_iconst (q := 129) 1 dX9_rigid_128 rfl (by decide) ?_
      refine xn_isub (q := 130) dX9_rigid_129 rfl (by omega) ?_
      refine m_iald (q := 131) hM (n := 3) (by decide) dX9_rigid_130 rfl (by omega) ?_
      rw [hL1]
      refine xn_i2l (q := 132) dX9_rigid_131 rfl (by omega) ?_
      refine x_iload_n (q := 133) dX9_rigid_132 rfl rfl ?_
      refine m_call (q := 136) (As := [_, _, _, _, _]) hM imX9_isFree ivX9_isFree ilX9_isFree mwX9_248 xciX9 dX9_rigid_133 rfl rfl rfl (Nat.le_of_ble_eq_true rfl) ?_
      have qf1 := hok.2.2 (2 * k - 2) (2 * k - 2 + 1) (1) ((c.L (k - 1) : Int)) (by omega) (by omega) (by omega) (by omega) (by omega) (by omega)
      refine (c_isFree G l o as M0 N S d σ' (2 * k - 2) (2 * k - 2 + 1) _ _ (1) ((c.L (k - 1) : Int)) (lN_i' _) (lN_i' _) (by omega) (by omega) K (liN c) (by omega) (by omega) (liR c) hl qf1.1 qf1.2).mono (fun x σf1 hp => ?_)
      obtain ⟨rfl, wf1, lf1⟩ := hp
      intro M hM
      have of1 : onlyR σ σf1 := (ho).trans wf1.r
      have tf1 : σf1.1 23 = bI true := by rw [wf1.1 23 (by decide)]; exact h23
      have xf1 := Lse.eq hx0 (wf1.1 27 (by decide)) (by rw [wf1.2.1])
      have zf1 : σf1.2.1 = σ'.2.1 := wf1.2.1.trans rfl
      have gf1 : freeF c (2 * k - 2) (1) (2 * k - 2 + 1) ((c.L (k - 1) : Int)) = decide (K < rkN (addL (liR c) (liN c) (lineV (2 * k - 2) (1) (2 * k - 2 + 1) ((c.L (k - 1) : Int)) 0 0)) (liN c + 1)) := by unfold freeF; rw [hK]
      rw [← gf1]
      show xX G l _ (d + 4) _ _ _ [.int (bI (freeF c (2 * k - 2) (1) (2 * k - 2 + 1) ((c.L (k - 1) : Int))))] M N S
      refine x_istore (q := 138) (ls' := [(0, _), (1, _), (2, _), (3, _), (4, _), (5, _)]) [1, 2, 3, 4, 5, 0] dX9_rigid_136 rfl (by decide) rfl ?_
      refine x_iload (q := 140) dX9_rigid_138 rfl rfl ?_
      refine x_if_ne (q := 143) 175 dX9_rigid_140 (by decide) rfl (fun hc140 => ?_) (fun hc140 => ?_)
      · refine xn_iconst (q := 176) 1 dX9_rigid_175 rfl (by decide) ?_
        refine x_goto 180 dX9_rigid_176 (by decide) ?_
        refine x_istore (q := 182) (ls' := [(0, _), (1, _), (2, _), (3, _), (4, _), (5, _)]) [1, 2, 3, 4, 5, 0] dX9_rigid_180 rfl (by decide) rfl ?_
        refine x_iload (q := 184) dX9_rigid_182 rfl rfl ?_
        refine xn_if_ne (q := 187) 218 dX9_rigid_184 (by decide) rfl (by omega) (fun hc184 => ?_) (fun hc184 => absurd hc184 (by decide))
        refine xn_iconst (q := 219) 1 dX9_rigid_218 rfl (by decide) ?_
        refine x_goto 223 dX9_rigid_219 (by decide) ?_
        refine x_istore (q := 225) (ls' := [(0, _), (1, _), (2, _), (3, _), (4, _), (5, _)]) [1, 2, 3, 4, 5, 0] dX9_rigid_223 rfl (by decide) rfl ?_
        refine fin σf1 M true ?_ of1 tf1 lf1 xf1 hM _ _
        unfold freeP
        simp only [h0, hR0, hl0, decide_true, decide_false, if_true, if_false, reduceIte, Bool.not_true, Bool.not_false, Bool.and_true, Bool.true_and, Bool.and_false, Bool.false_and, Bool.or_false, Bool.false_or]
        try rw [show freeF c (2 * k - 2) (1) (2 * k - 2 + 1) ((c.L (k - 1) : Int)) = true from bI_ne.mp hc140]
        try rw [show freeF c (2 * k - 2) (1) (2 * k - 2 + 1) ((c.L (k - 1) : Int)) = false from bI_eq.mp hc140]
        try rw [show freeF c (2 * k - 2 + 1) (1) (0) (0) = true from bI_ne.mp hc172]
        try rw [show freeF c (2 * k - 2 + 1) (1) (0) (0) = false from bI_eq.mp hc172]
        try simp only [Bool.true_or, Bool.or_true, Bool.or_false, Bool.false_or]
      · refine x_iload_n (q := 144) dX9_rigid_143 rfl rfl ?_
        refine xn_if_le (q := 147) 179 dX9_rigid_144 (by decide) rfl (by omega) (fun hc144 => absurd hc144 (by omega)) (fun hc144 => ?_)
        refine x_aload_n (q := 148) dX9_rigid_147 rfl rfl ?_
        refine m_get (q := 151) hM 6 fwX9_19 (by decide) dX9_rigid_148 rfl rfl ?_
        refine xn_iconst (q := 152) 2 dX9_rigid_151 rfl (by decide) ?_
        refine x_iload_n (q := 153) dX9_rigid_152 rfl rfl ?_
        refine xn_imul (q := 154) dX9_rigid_153 rfl ?_
        refine xn_iconst (q := 155) 1 dX9_rigid_154 rfl (by decide) ?_
        refine xn_isub (q := 156) dX9_rigid_155 rfl (by omega) ?_
        refine m_zald (q := 157) hM (n := 6) (by decide) dX9_rigid_156 rfl (by omega) ?_
        rw [zf1, hHl, hl0]
        refine x_if_ne (q := 160) 179 dX9_rigid_157 (by decide) rfl (fun hc157 => absurd hc157 (by decide)) (fun hc157 => ?_)
        refine x_aload_n (q := 161) dX9_rigid_160 rfl rfl ?_
        refine x_iload (q := 163) dX9_rigid_161 rfl rfl ?_
        refine xn_iconst (q := 164) 1 dX9_rigid_163 rfl (by decide) ?_
        refine xn_iadd (q := 165) dX9_rigid_164 rfl ?_
        refine xn_lconst (q := 166) 1 dX9_rigid_165 rfl (by decide) ?_
        refine xn_iconst (q := 167) 0 dX9_rigid_166 rfl (by decide) ?_
        refine xn_lconst (q := 168) 0 dX9_rigid_167 rfl (by decide) ?_
        refine x_iload_n (q := 169) dX9_rigid_168 rfl rfl ?_
        refine m_call (q := 172) (As := [_, _, _, _, _]) hM imX9_isFree ivX9_isFree ilX9_isFree mwX9_248 xciX9 dX9_rigid_169 rfl rfl rfl (Nat.le_of_ble_eq_true rfl) ?_
        have qf2 := hok.2.2 (2 * k - 2 + 1) (0) (1) (0) (by omega) (by omega) (by omega) (by omega) (by omega) (by omega)
        refine (c_isFree G l o as M0 N S d σf1 (2 * k - 2 + 1) (0) _ _ (1) (0) (lN_i' _) (lN_i' _) (by omega) (by omega) K (liN c) (by omega) (by omega) (liR c) lf1 qf2.1 qf2.2).mono (fun x σf2 hp => ?_)
        obtain ⟨rfl, wf2, lf2⟩ := hp
        intro M hM
        have of2 : onlyR σ σf2 := (of1).trans wf2.r
        have tf2 : σf2.1 23 = bI true := by rw [wf2.1 23 (by decide)]; exact tf1
        have xf2 := Lse.eq xf1 (wf2.1 27 (by decide)) (by rw [wf2.2.1])
        have zf2 : σf2.2.1 = σ'.2.1 := wf2.2.1.trans zf1
        have gf2 : freeF c (2 * k - 2 + 1) (1) (0) (0) = decide (K < rkN (addL (liR c) (liN c) (lineV (2 * k - 2 + 1) (1) (0) (0) 0 0)) (liN c + 1)) := by unfold freeF; rw [hK]
        rw [← gf2]
        show xX G l _ (d + 4) _ _ _ [.int (bI (freeF c (2 * k - 2 + 1) (1) (0) (0)))] M N S
        refine x_if_eq (q := 175) 179 dX9_rigid_172 (by decide) rfl (fun hc172 => ?_) (fun hc172 => ?_)
        · refine xn_iconst (q := 180) 0 dX9_rigid_179 rfl (by decide) ?_
          refine x_istore (q := 182) (ls' := [(0, _), (1, _), (2, _), (3, _), (4, _), (5, _)]) [1, 2, 3, 4, 5, 0] dX9_rigid_180 rfl (by decide) rfl ?_
          refine x_iload (q := 184) dX9_rigid_182 rfl rfl ?_
          refine xn_if_ne (q := 187) 218 dX9_rigid_184 (by decide) rfl (by omega) (fun hc184 => absurd hc184 (by decide)) (fun hc184 => ?_)
          refine x_iload_n (q := 188) dX9_rigid_187 rfl rfl ?_
          refine xn_if_eq (q := 191) 222 dX9_rigid_188 (by decide) rfl (by omega) (fun hc188 => ?_) (fun hc188 => absurd hc188 (by decide))
          refine xn_iconst (q := 223) 0 dX9_rigid_222 rfl (by decide) ?_
          refine x_istore (q := 225) (ls' := [(0, _), (1, _), (2, _), (3, _), (4, _), (5, _)]) [1, 2, 3, 4, 5, 0] dX9_rigid_223 rfl (by decide) rfl ?_
          refine fin σf2 M false ?_ of2 tf2 lf2 xf2 hM _ _
          unfold freeP
          simp only [h0, hR0, hl0, decide_true, decide_false, if_true, if_false, reduceIte, Bool.not_true, Bool.not_false, Bool.and_true, Bool.true_and, Bool.and_false, Bool.false_and, Bool.or_false, Bool.false_or]
          try rw [show freeF c (2 * k - 2) (1) (2 * k - 2 + 1) ((c.L (k - 1) : Int)) = true from bI_ne.mp hc140]
          try rw [show freeF c (2 * k - 2) (1) (2 * k - 2 + 1) ((c.L (k - 1) : Int)) = false from bI_eq.mp hc140]
          try rw [show freeF c (2 * k - 2 + 1) (1) (0) (0) = true from bI_ne.mp hc172]
          try rw [show freeF c (2 * k - 2 + 1) (1) (0) (0) = false from bI_eq.mp hc172]
          try simp only [Bool.true_or, Bool.or_true, Bool.or_false, Bool.false_or]
        · refine xn_iconst (q := 176) 1 dX9_rigid_175 rfl (by decide) ?_
          refine x_goto 180 dX9_rigid_176 (by decide) ?_
          refine x_istore (q := 182) (ls' := [(0, _), (1, _), (2, _), (3, _), (4, _), (5, _)]) [1, 2, 3, 4, 5, 0] dX9_rigid_180 rfl (by decide) rfl ?_
          refine x_iload (q := 184) dX9_rigid_182 rfl rfl ?_
          refine xn_if_ne (q := 187) 218 dX9_rigid_184 (by decide) rfl (by omega) (fun hc184 => ?_) (fun hc184 => absurd hc184 (by decide))
          refine xn_iconst (q := 219) 1 dX9_rigid_218 rfl (by decide) ?_
          refine x_goto 223 dX9_rigid_219 (by decide) ?_
          refine x_istore (q := 225) (ls' := [(0, _), (1, _), (2, _), (3, _), (4, _), (5, _)]) [1, 2, 3, 4, 5, 0] dX9_rigid_223 rfl (by decide) rfl ?_
          refine fin σf2 M true ?_ of2 tf2 lf2 xf2 hM _ _
          unfold freeP
          simp only [h0, hR0, hl0, decide_true, decide_false, if_true, if_false, reduceIte, Bool.not_true, Bool.not_false, Bool.and_true, Bool.true_and, Bool.and_false, Bool.false_and, Bool.or_false, Bool.false_or]
          try rw [show freeF c (2 * k - 2) (1) (2 * k - 2 + 1) ((c.L (k - 1) : Int)) = true from bI_ne.mp hc140]
          try rw [show freeF c (2 * k - 2) (1) (2 * k - 2 + 1) ((c.L (k - 1) : Int)) = false from bI_eq.mp hc140]
          try rw [show freeF c (2 * k - 2 + 1) (1) (0) (0) = true from bI_ne.mp hc172]
          try rw [show freeF c (2 * k - 2 + 1) (1) (0) (0) = false from bI_eq.mp hc172]
          try simp only [Bool.true_or, Bool.or_true, Bool.or_false, Bool.false_or]
    · refine x_iload_n (q := 62) dX9_rigid_61 rfl rfl ?_
      refine x_aload_n (q := 63) dX9_rigid_62 rfl rfl ?_
      refine m_get (q := 66) hM 3 fwX9_93 (by decide) dX9_rigid_63 rfl rfl ?_
      rw [hm]
      refine xn_icmp_gt (q := 69) 256 dX9_rigid_66 (by decide) rfl (by omega) (by omega) (fun hc66 => absurd hc66 (by omega)) (fun hc66 => ?_)
      refine x_aload_n (q := 70) dX9_rigid_69 rfl rfl ?_
      refine m_get (q := 73) hM 23 fwX9_212 (by decide) dX9_rigid_70 rfl rfl ?_
      rw [h23]
      refine x_if_eq (q := 76) 256 dX9_rigid_73 (by decide) rfl (fun hc73 => absurd hc73 (by decide)) (fun hc73 => ?_)
      refine x_iload_n (q := 77) dX9_rigid_76 rfl rfl ?_
      refine x_aload_n (q := 78) dX9_rigid_77 rfl rfl ?_
      refine m_get (q := 81) hM 3 fwX9_93 (by decide) dX9_rigid_78 rfl rfl ?_
      rw [hm]
      refine xn_icmp_ge (q := 84) 88 dX9_rigid_81 (by decide) rfl (by omega) (by omega) (fun hc81 => ?_) (fun hc81 => absurd hc81 (by omega))
      refine xn_iconst (q := 89) 0 dX9_rigid_88 rfl (by decide) ?_
      refine x_istore_n (q := 90) (ls' := [(0, _), (1, _), (2, _), (3, _)]) [1, 2, 3, 0] dX9_rigid_89 rfl (by decide) rfl ?_
      refine xn_iconst (q := 91) 2 dX9_rigid_90 rfl (by decide) ?_
      refine x_iload_n (q := 92) dX9_rigid_91 rfl rfl ?_
      refine xn_imul (q := 93) dX9_rigid_92 rfl ?_
      refine xn_iconst (q := 94) 2 dX9_rigid_93 rfl (by decide) ?_
      refine xn_isub (q := 95) dX9_rigid_94 rfl (by omega) ?_
      refine x_istore (q := 97) (ls' := [(0, _), (1, _), (2, _), (3, _), (4, _)]) [1, 2, 3, 4, 0] dX9_rigid_95 rfl (by decide) rfl ?_
      refine x_iload_n (q := 98) dX9_rigid_97 rfl rfl ?_
      refine xn_if_eq (q := 101) 115 dX9_rigid_98 (by decide) rfl (by omega) (fun hc98 => ?_) (fun hc98 => absurd hc98 (by decide))
      refine x_aload_n (q := 116) dX9_rigid_115 rfl rfl ?_
      refine x_iload (q := 118) dX9_rigid_116 rfl rfl ?_
      refine xn_lconst (q := 119) 1 dX9_rigid_118 rfl (by decide) ?_
      refine x_iload (q := 121) dX9_rigid_119 rfl rfl ?_
      refine xn_iconst (q := 122) 1 dX9_rigid_121 rfl (by decide) ?_
      refine xn_iadd (q := 123) dX9_rigid_122 rfl ?_
      refine x_aload_n (q := 124) dX9_rigid_123 rfl rfl ?_
      refine m_get (q := 127) hM 4 fwX9_13 (by decide) dX9_rigid_124 rfl rfl ?_
      refine x_iload_n (q := 128) dX9_rigid_127 rfl rfl ?_
      refine xn_iconst (q := 129) 1 dX9_rigid_128 rfl (by decide) ?_
      refine xn_isub (q := 130) dX9_rigid_129 rfl (by omega) ?_
      refine m_iald (q := 131) hM (n := 3) (by decide) dX9_rigid_130 rfl (by omega) ?_
      rw [hL1]
      refine xn_i2l (q := 132) dX9_rigid_131 rfl (by omega) ?_
      refine x_iload_n (q := 133) dX9_rigid_132 rfl rfl ?_
      refine m_call (q := 136) (As := [_, _, _, _, _]) hM imX9_isFree ivX9_isFree ilX9_isFree mwX9_248 xciX9 dX9_rigid_133 rfl rfl rfl (Nat.le_of_ble_eq_true rfl) ?_
      have qf1 := hok.2.2 (2 * k - 2) (2 * k - 2 + 1) (1) ((c.L (k - 1) : Int)) (by omega) (by omega) (by omega) (by omega) (by omega) (by omega)
      refine (c_isFree G l o as M0 N S d σ' (2 * k - 2) (2 * k - 2 + 1) _ _ (1) ((c.L (k - 1) : Int)) (lN_i' _) (lN_i' _) (by omega) (by omega) K (liN c) (by omega) (by omega) (liR c) hl qf1.1 qf1.2).mono (fun x σf1 hp => ?_)
      obtain ⟨rfl, wf1, lf1⟩ := hp
      intro M hM
      have of1 : onlyR σ σf1 := (ho).trans wf1.r
      have tf1 : σf1.1 23 = bI true := by rw [wf1.1 23 (by decide)]; exact h23
      have xf1 := Lse.eq hx0 (wf1.1 27 (by decide)) (by rw [wf1.2.1])
      have zf1 : σf1.2.1 = σ'.2.1 := wf1.2.1.trans rfl
      have gf1 : freeF c (2 * k - 2) (1) (2 * k - 2 + 1) ((c.L (k - 1) : Int)) = decide (K < rkN (addL (liR c) (liN c) (lineV (2 * k - 2) (1) (2 * k - 2 + 1) ((c.L (k - 1) : Int)) 0 0)) (liN c + 1)) := by unfold freeF; rw [hK]
      rw [← gf1]
      show xX G l _ (d + 4) _ _ _ [.int (bI (freeF c (2 * k - 2) (1) (2 * k - 2 + 1) ((c.L (k - 1) : Int))))] M N S
      refine x_istore (q := 138) (ls' := [(0, _), (1, _), (2, _), (3, _), (4, _), (5, _)]) [1, 2, 3, 4, 5, 0] dX9_rigid_136 rfl (by decide) rfl ?_
      refine x_iload (q := 140) dX9_rigid_138 rfl rfl ?_
      refine x_if_ne (q := 143) 175 dX9_rigid_140 (by decide) rfl (fun hc140 => ?_) (fun hc140 => ?_)
      · refine xn_iconst (q := 176) 1 dX9_rigid_175 rfl (by decide) ?_
        refine x_goto 180 dX9_rigid_176 (by decide) ?_
        refine x_istore (q := 182) (ls' := [(0, _), (1, _), (2, _), (3, _), (4, _), (5, _)]) [1, 2, 3, 4, 5, 0] dX9_rigid_180 rfl (by decide) rfl ?_
        refine x_iload (q := 184) dX9_rigid_182 rfl rfl ?_
        refine xn_if_ne (q := 187) 218 dX9_rigid_184 (by decide) rfl (by omega) (fun hc184 => ?_) (fun hc184 => absurd hc184 (by decide))
        refine xn_iconst (q := 219) 1 dX9_rigid_218 rfl (by decide) ?_
        refine x_goto 223 dX9_rigid_219 (by decide) ?_
        refine x_istore (q := 225) (ls' := [(0, _), (1, _), (2, _), (3, _), (4, _), (5, _)]) [1, 2, 3, 4, 5, 0] dX9_rigid_223 rfl (by decide) rfl ?_
        refine fin σf1 M true ?_ of1 tf1 lf1 xf1 hM _ _
        unfold freeP
        simp only [h0, hR0, hl0, decide_true, decide_false, if_true, if_false, reduceIte, Bool.not_true, Bool.not_false, Bool.and_true, Bool.true_and, Bool.and_false, Bool.false_and, Bool.or_false, Bool.false_or]
        try rw [show freeF c (2 * k - 2) (1) (2 * k - 2 + 1) ((c.L (k - 1) : Int)) = true from bI_ne.mp hc140]
        try rw [show freeF c (2 * k - 2) (1) (2 * k - 2 + 1) ((c.L (k - 1) : Int)) = false from bI_eq.mp hc140]
        try simp only [Bool.true_or, Bool.or_true, Bool.or_false, Bool.false_or]
      · refine x_iload_n (q := 144) dX9_rigid_143 rfl rfl ?_
        refine xn_if_le (q := 147) 179 dX9_rigid_144 (by decide) rfl (by omega) (fun hc144 => absurd hc144 (by omega)) (fun hc144 => ?_)
        refine x_aload_n (q := 148) dX9_rigid_147 rfl rfl ?_
        refine m_get (q := 151) hM 6 fwX9_19 (by decide) dX9_rigid_148 rfl rfl ?_
        refine xn_iconst (q := 152) 2 dX9_rigid_151 rfl (by decide) ?_
        refine x_iload_n (q := 153) dX9_rigid_152 rfl rfl ?_
        refine xn_imul (q := 154) dX9_rigid_153 rfl ?_
        refine xn_iconst (q := 155) 1 dX9_rigid_154 rfl (by decide) ?_
        refine xn_isub (q := 156) dX9_rigid_155 rfl (by omega) ?_
        refine m_zald (q := 157) hM (n := 6) (by decide) dX9_rigid_156 rfl (by omega) ?_
        rw [zf1, hHl, hl0]
        refine x_if_ne (q := 160) 179 dX9_rigid_157 (by decide) rfl (fun hc157 => ?_) (fun hc157 => absurd hc157 (by decide))
        refine xn_iconst (q := 180) 0 dX9_rigid_179 rfl (by decide) ?_
        refine x_istore (q := 182) (ls' := [(0, _), (1, _), (2, _), (3, _), (4, _), (5, _)]) [1, 2, 3, 4, 5, 0] dX9_rigid_180 rfl (by decide) rfl ?_
        refine x_iload (q := 184) dX9_rigid_182 rfl rfl ?_
        refine xn_if_ne (q := 187) 218 dX9_rigid_184 (by decide) rfl (by omega) (fun hc184 => absurd hc184 (by decide)) (fun hc184 => ?_)
        refine x_iload_n (q := 188) dX9_rigid_187 rfl rfl ?_
        refine xn_if_eq (q := 191) 222 dX9_rigid_188 (by decide) rfl (by omega) (fun hc188 => ?_) (fun hc188 => absurd hc188 (by decide))
        refine xn_iconst (q := 223) 0 dX9_rigid_222 rfl (by decide) ?_
        refine x_istore (q := 225) (ls' := [(0, _), (1, _), (2, _), (3, _), (4, _), (5, _)]) [1, 2, 3, 4, 5, 0] dX9_rigid_223 rfl (by decide) rfl ?_
        refine fin σf1 M false ?_ of1 tf1 lf1 xf1 hM _ _
        unfold freeP
        simp only [h0, hR0, hl0, decide_true, decide_false, if_true, if_false, reduceIte, Bool.not_true, Bool.not_false, Bool.and_true, Bool.true_and, Bool.and_false, Bool.false_and, Bool.or_false, Bool.false_or]
        try rw [show freeF c (2 * k - 2) (1) (2 * k - 2 + 1) ((c.L (k - 1) : Int)) = true from bI_ne.mp hc140]
        try rw [show freeF c (2 * k - 2) (1) (2 * k - 2 + 1) ((c.L (k - 1) : Int)) = false from bI_eq.mp hc140]
        try simp only [Bool.true_or, Bool.or_true, Bool.or_false, Bool.false_or]
  · cases hg0 : c.Hg (2 * k)
    · refine x_iload_n (q := 62) dX9_rigid_61 rfl rfl ?_
      refine x_aload_n (q := 63) dX9_rigid_62 rfl rfl ?_
      refine m_get (q := 66) hM 3 fwX9_93 (by decide) dX9_rigid_63 rfl rfl ?_
      rw [hm]
      refine xn_icmp_gt (q := 69) 256 dX9_rigid_66 (by decide) rfl (by omega) (by omega) (fun hc66 => absurd hc66 (by omega)) (fun hc66 => ?_)
      refine x_aload_n (q := 70) dX9_rigid_69 rfl rfl ?_
      refine m_get (q := 73) hM 23 fwX9_212 (by decide) dX9_rigid_70 rfl rfl ?_
      rw [h23]
      refine x_if_eq (q := 76) 256 dX9_rigid_73 (by decide) rfl (fun hc73 => absurd hc73 (by decide)) (fun hc73 => ?_)
      refine x_iload_n (q := 77) dX9_rigid_76 rfl rfl ?_
      refine x_aload_n (q := 78) dX9_rigid_77 rfl rfl ?_
      refine m_get (q := 81) hM 3 fwX9_93 (by decide) dX9_rigid_78 rfl rfl ?_
      rw [hm]
      refine xn_icmp_ge (q := 84) 88 dX9_rigid_81 (by decide) rfl (by omega) (by omega) (fun hc81 => absurd hc81 (by omega)) (fun hc81 => ?_)
      refine xn_iconst (q := 85) 1 dX9_rigid_84 rfl (by decide) ?_
      refine x_goto 89 dX9_rigid_85 (by decide) ?_
      refine x_istore_n (q := 90) (ls' := [(0, _), (1, _), (2, _), (3, _)]) [1, 2, 3, 0] dX9_rigid_89 rfl (by decide) rfl ?_
      refine xn_iconst (q := 91) 2 dX9_rigid_90 rfl (by decide) ?_
      refine x_iload_n (q := 92) dX9_rigid_91 rfl rfl ?_
      refine xn_imul (q := 93) dX9_rigid_92 rfl ?_
      refine xn_iconst (q := 94) 2 dX9_rigid_93 rfl (by decide) ?_
      refine x_isub (q := 95) dX9_rigid_94 rfl ?_
      refine x_istore (q := 97) (ls' := [(0, _), (1, _), (2, _), (3, _), (4, _)]) [1, 2, 3, 4, 0] dX9_rigid_95 rfl (by decide) rfl ?_
      refine x_iload_n (q := 98) dX9_rigid_97 rfl rfl ?_
      refine xn_if_eq (q := 101) 115 dX9_rigid_98 (by decide) rfl (by omega) (fun hc98 => absurd hc98 (by decide)) (fun hc98 => ?_)
      refine x_aload_n (q := 102) dX9_rigid_101 rfl rfl ?_
      refine xn_iconst (q := 103) 2 dX9_rigid_102 rfl (by decide) ?_
      refine x_iload_n (q := 104) dX9_rigid_103 rfl rfl ?_
      refine xn_imul (q := 105) dX9_rigid_104 rfl ?_
      refine xn_lconst (q := 106) 1 dX9_rigid_105 rfl (by decide) ?_
      refine xn_iconst (q := 107) 0 dX9_rigid_106 rfl (by decide) ?_
      refine xn_lconst (q := 108) 0 dX9_rigid_107 rfl (by decide) ?_
      refine x_iload_n (q := 109) dX9_rigid_108 rfl rfl ?_
      refine m_call (q := 112) (As := [_, _, _, _, _]) hM imX9_isFree ivX9_isFree ilX9_isFree mwX9_248 xciX9 dX9_rigid_109 rfl rfl rfl (Nat.le_of_ble_eq_true rfl) ?_
      have qf1 := hok.2.2 (2 * k) (0) (1) (0) (by omega) (by omega) (by omega) (by omega) (by omega) (by omega)
      refine (c_isFree G l o as M0 N S d σ' (2 * k) (0) _ _ (1) (0) (lN_i' _) (lN_i' _) (by omega) (by omega) K (liN c) (by omega) (by omega) (liR c) hl qf1.1 qf1.2).mono (fun x σf1 hp => ?_)
      obtain ⟨rfl, wf1, lf1⟩ := hp
      intro M hM
      have of1 : onlyR σ σf1 := (ho).trans wf1.r
      have tf1 : σf1.1 23 = bI true := by rw [wf1.1 23 (by decide)]; exact h23
      have xf1 := Lse.eq hx0 (wf1.1 27 (by decide)) (by rw [wf1.2.1])
      have zf1 : σf1.2.1 = σ'.2.1 := wf1.2.1.trans rfl
      have gf1 : freeF c (2 * k) (1) (0) (0) = decide (K < rkN (addL (liR c) (liN c) (lineV (2 * k) (1) (0) (0) 0 0)) (liN c + 1)) := by unfold freeF; rw [hK]
      rw [← gf1]
      show xX G l _ (d + 4) _ _ _ [.int (bI (freeF c (2 * k) (1) (0) (0)))] M N S
      refine x_goto 136 dX9_rigid_112 (by decide) ?_
      refine x_istore (q := 138) (ls' := [(0, _), (1, _), (2, _), (3, _), (4, _), (5, _)]) [1, 2, 3, 4, 5, 0] dX9_rigid_136 rfl (by decide) rfl ?_
      refine x_iload (q := 140) dX9_rigid_138 rfl rfl ?_
      refine x_if_ne (q := 143) 175 dX9_rigid_140 (by decide) rfl (fun hc140 => ?_) (fun hc140 => ?_)
      · refine xn_iconst (q := 176) 1 dX9_rigid_175 rfl (by decide) ?_
        refine x_goto 180 dX9_rigid_176 (by decide) ?_
        refine x_istore (q := 182) (ls' := [(0, _), (1, _), (2, _), (3, _), (4, _), (5, _)]) [1, 2, 3, 4, 5, 0] dX9_rigid_180 rfl (by decide) rfl ?_
        refine x_iload (q := 184) dX9_rigid_182 rfl rfl ?_
        refine xn_if_ne (q := 187) 218 dX9_rigid_184 (by decide) rfl (by omega) (fun hc184 => ?_) (fun hc184 => absurd hc184 (by decide))
        refine xn_iconst (q := 219) 1 dX9_rigid_218 rfl (by decide) ?_
        refine x_goto 223 dX9_rigid_219 (by decide) ?_
        refine x_istore (q := 225) (ls' := [(0, _), (1, _), (2, _), (3, _), (4, _), (5, _)]) [1, 2, 3, 4, 5, 0] dX9_rigid_223 rfl (by decide) rfl ?_
        refine fin σf1 M true ?_ of1 tf1 lf1 xf1 hM _ _
        unfold freeP
        simp only [h0, hR0, hg0, decide_true, decide_false, if_true, if_false, reduceIte, Bool.not_true, Bool.not_false, Bool.and_true, Bool.true_and, Bool.and_false, Bool.false_and, Bool.or_false, Bool.false_or]
        try rw [show freeF c (2 * k) (1) (0) (0) = true from bI_ne.mp hc140]
        try rw [show freeF c (2 * k) (1) (0) (0) = false from bI_eq.mp hc140]
        try rw [show freeF c (2 * k + 1) (1) (0) (0) = true from bI_ne.mp hc215]
        try rw [show freeF c (2 * k + 1) (1) (0) (0) = false from bI_eq.mp hc215]
        try simp only [Bool.true_or, Bool.or_true, Bool.or_false, Bool.false_or]
      · refine x_iload_n (q := 144) dX9_rigid_143 rfl rfl ?_
        refine xn_if_le (q := 147) 179 dX9_rigid_144 (by decide) rfl (by omega) (fun hc144 => ?_) (fun hc144 => absurd hc144 (by omega))
        refine xn_iconst (q := 180) 0 dX9_rigid_179 rfl (by decide) ?_
        refine x_istore (q := 182) (ls' := [(0, _), (1, _), (2, _), (3, _), (4, _), (5, _)]) [1, 2, 3, 4, 5, 0] dX9_rigid_180 rfl (by decide) rfl ?_
        refine x_iload (q := 184) dX9_rigid_182 rfl rfl ?_
        refine xn_if_ne (q := 187) 218 dX9_rigid_184 (by decide) rfl (by omega) (fun hc184 => absurd hc184 (by decide)) (fun hc184 => ?_)
        refine x_iload_n (q := 188) dX9_rigid_187 rfl rfl ?_
        refine xn_if_eq (q := 191) 222 dX9_rigid_188 (by decide) rfl (by omega) (fun hc188 => absurd hc188 (by decide)) (fun hc188 => ?_)
        refine x_aload_n (q := 192) dX9_rigid_191 rfl rfl ?_
        refine m_get (q := 195) hM 6 fwX9_19 (by decide) dX9_rigid_192 rfl rfl ?_
        refine xn_iconst (q := 196) 2 dX9_rigid_195 rfl (by decide) ?_
        refine x_iload_n (q := 197) dX9_rigid_196 rfl rfl ?_
        refine xn_imul (q := 198) dX9_rigid_197 rfl ?_
        refine m_zald (q := 199) hM (n := 6) (by decide) dX9_rigid_198 rfl (by omega) ?_
        rw [zf1, hHr hR0, hg0]
        refine x_if_ne (q := 202) 222 dX9_rigid_199 (by decide) rfl (fun hc199 => absurd hc199 (by decide)) (fun hc199 => ?_)
        refine x_aload_n (q := 203) dX9_rigid_202 rfl rfl ?_
        refine xn_iconst (q := 204) 2 dX9_rigid_203 rfl (by decide) ?_
        refine x_iload_n (q := 205) dX9_rigid_204 rfl rfl ?_
        refine xn_imul (q := 206) dX9_rigid_205 rfl ?_
        refine xn_iconst (q := 207) 1 dX9_rigid_206 rfl (by decide) ?_
        refine xn_iadd (q := 208) dX9_rigid_207 rfl ?_
        refine xn_lconst (q := 209) 1 dX9_rigid_208 rfl (by decide) ?_
        refine xn_iconst (q := 210) 0 dX9_rigid_209 rfl (by decide) ?_
        refine xn_lconst (q := 211) 0 dX9_rigid_210 rfl (by decide) ?_
        refine x_iload_n (q := 212) dX9_rigid_211 rfl rfl ?_
        refine m_call (q := 215) (As := [_, _, _, _, _]) hM imX9_isFree ivX9_isFree ilX9_isFree mwX9_248 xciX9 dX9_rigid_212 rfl rfl rfl (Nat.le_of_ble_eq_true rfl) ?_
        have qf2 := hok.2.2 (2 * k + 1) (0) (1) (0) (by omega) (by omega) (by omega) (by omega) (by omega) (by omega)
        refine (c_isFree G l o as M0 N S d σf1 (2 * k + 1) (0) _ _ (1) (0) (lN_i' _) (lN_i' _) (by omega) (by omega) K (liN c) (by omega) (by omega) (liR c) lf1 qf2.1 qf2.2).mono (fun x σf2 hp => ?_)
        obtain ⟨rfl, wf2, lf2⟩ := hp
        intro M hM
        have of2 : onlyR σ σf2 := (of1).trans wf2.r
        have tf2 : σf2.1 23 = bI true := by rw [wf2.1 23 (by decide)]; exact tf1
        have xf2 := Lse.eq xf1 (wf2.1 27 (by decide)) (by rw [wf2.2.1])
        have zf2 : σf2.2.1 = σ'.2.1 := wf2.2.1.trans zf1
        have gf2 : freeF c (2 * k + 1) (1) (0) (0) = decide (K < rkN (addL (liR c) (liN c) (lineV (2 * k + 1) (1) (0) (0) 0 0)) (liN c + 1)) := by unfold freeF; rw [hK]
        rw [← gf2]
        show xX G l _ (d + 4) _ _ _ [.int (bI (freeF c (2 * k + 1) (1) (0) (0)))] M N S
        refine x_if_eq (q := 218) 222 dX9_rigid_215 (by decide) rfl (fun hc215 => ?_) (fun hc215 => ?_)
        · refine xn_iconst (q := 223) 0 dX9_rigid_222 rfl (by decide) ?_
          refine x_istore (q := 225) (ls' := [(0, _), (1, _), (2, _), (3, _), (4, _), (5, _)]) [1, 2, 3, 4, 5, 0] dX9_rigid_223 rfl (by decide) rfl ?_
          refine fin σf2 M false ?_ of2 tf2 lf2 xf2 hM _ _
          unfold freeP
          simp only [h0, hR0, hg0, decide_true, decide_false, if_true, if_false, reduceIte, Bool.not_true, Bool.not_false, Bool.and_true, Bool.true_and, Bool.and_false, Bool.false_and, Bool.or_false, Bool.false_or]
          try rw [show freeF c (2 * k) (1) (0) (0) = true from bI_ne.mp hc140]
          try rw [show freeF c (2 * k) (1) (0) (0) = false from bI_eq.mp hc140]
          try rw [show freeF c (2 * k + 1) (1) (0) (0) = true from bI_ne.mp hc215]
          try rw [show freeF c (2 * k + 1) (1) (0) (0) = false from bI_eq.mp hc215]
          try simp only [Bool.true_or, Bool.or_true, Bool.or_false, Bool.false_or]
        · refine xn_iconst (q := 219) 1 dX9_rigid_218 rfl (by decide) ?_
          refine x_goto 223 dX9_rigid_219 (by decide) ?_
          refine x_istore (q := 225) (ls' := [(0, _), (1, _), (2, _), (3, _), (4, _), (5, _)]) [1, 2, 3, 4, 5, 0] dX9_rigid_223 rfl (by decide) rfl ?_
          refine fin σf2 M true ?_ of2 tf2 lf2 xf2 hM _ _
          unfold freeP
          simp only [h0, hR0, hg0, decide_true, decide_false, if_true, if_false, reduceIte, Bool.not_true, Bool.not_false, Bool.and_true, Bool.true_and, Bool.and_false, Bool.false_and, Bool.or_false, Bool.false_or]
          try rw [show freeF c (2 * k) (1) (0) (0) = true from bI_ne.mp hc140]
          try rw [show freeF c (2 * k) (1) (0) (0) = false from bI_eq.mp hc140]
          try rw [show freeF c (2 * k + 1) (1) (0) (0) = true from bI_ne.mp hc215]
          try rw [show freeF c (2 * k + 1) (1) (0) (0) = false from bI_eq.mp hc215]
          try simp only [Bool.true_or, Bool.or_true, Bool.or_false, Bool.false_or]
    · refine x_iload_n (q := 62) dX9_rigid_61 rfl rfl ?_
      refine x_aload_n (q := 63) dX9_rigid_62 rfl rfl ?_
      refine m_get (q := 66) hM 3 fwX9_93 (by decide) dX9_rigid_63 rfl rfl ?_
      rw [hm]
      refine xn_icmp_gt (q := 69) 256 dX9_rigid_66 (by decide) rfl (by omega) (by omega) (fun hc66 => absurd hc66 (by omega)) (fun hc66 => ?_)
      refine x_aload_n (q := 70) dX9_rigid_69 rfl rfl ?_
      refine m_get (q := 73) hM 23 fwX9_212 (by decide) dX9_rigid_70 rfl rfl ?_
      rw [h23]
      refine x_if_eq (q := 76) 256 dX9_rigid_73 (by decide) rfl (fun hc73 => absurd hc73 (by decide)) (fun hc73 => ?_)
      refine x_iload_n (q := 77) dX9_rigid_76 rfl rfl ?_
      refine x_aload_n (q := 78) dX9_rigid_77 rfl rfl ?_
      refine m_get (q := 81) hM 3 fwX9_93 (by decide) dX9_rigid_78 rfl rfl ?_
      rw [hm]
      refine xn_icmp_ge (q := 84) 88 dX9_rigid_81 (by decide) rfl (by omega) (by omega) (fun hc81 => absurd hc81 (by omega)) (fun hc81 => ?_)
      refine xn_iconst (q := 85) 1 dX9_rigid_84 rfl (by decide) ?_
      refine x_goto 89 dX9_rigid_85 (by decide) ?_
      refine x_istore_n (q := 90) (ls' := [(0, _), (1, _), (2, _), (3, _)]) [1, 2, 3, 0] dX9_rigid_89 rfl (by decide) rfl ?_
      refine xn_iconst (q := 91) 2 dX9_rigid_90 rfl (by decide) ?_
      refine x_iload_n (q := 92) dX9_rigid_91 rfl rfl ?_
      refine xn_imul (q := 93) dX9_rigid_92 rfl ?_
      refine xn_iconst (q := 94) 2 dX9_rigid_93 rfl (by decide) ?_
      refine x_isub (q := 95) dX9_rigid_94 rfl ?_
      refine x_istore (q := 97) (ls' := [(0, _), (1, _), (2, _), (3, _), (4, _)]) [1, 2, 3, 4, 0] dX9_rigid_95 rfl (by decide) rfl ?_
      refine x_iload_n (q := 98) dX9_rigid_97 rfl rfl ?_
      refine xn_if_eq (q := 101) 115 dX9_rigid_98 (by decide) rfl (by omega) (fun hc98 => absurd hc98 (by decide)) (fun hc98 => ?_)
      refine x_aload_n (q := 102) dX9_rigid_101 rfl rfl ?_
      refine xn_iconst (q := 103) 2 dX9_rigid_102 rfl (by decide) ?_
      refine x_iload_n (q := 104) dX9_rigid_103 rfl rfl ?_
      refine xn_imul (q := 105) dX9_rigid_104 rfl ?_
      refine xn_lconst (q := 106) 1 dX9_rigid_105 rfl (by decide) ?_
      refine xn_iconst (q := 107) 0 dX9_rigid_106 rfl (by decide) ?_
      refine xn_lconst (q := 108) 0 dX9_rigid_107 rfl (by decide) ?_
      refine x_iload_n (q := 109) dX9_rigid_108 rfl rfl ?_
      refine m_call (q := 112) (As := [_, _, _, _, _]) hM imX9_isFree ivX9_isFree ilX9_isFree mwX9_248 xciX9 dX9_rigid_109 rfl rfl rfl (Nat.le_of_ble_eq_true rfl) ?_
      have qf1 := hok.2.2 (2 * k) (0) (1) (0) (by omega) (by omega) (by omega) (by omega) (by omega) (by omega)
      refine (c_isFree G l o as M0 N S d σ' (2 * k) (0) _ _ (1) (0) (lN_i' _) (lN_i' _) (by omega) (by omega) K (liN c) (by omega) (by omega) (liR c) hl qf1.1 qf1.2).mono (fun x σf1 hp => ?_)
      obtain ⟨rfl, wf1, lf1⟩ := hp
      intro M hM
      have of1 : onlyR σ σf1 := (ho).trans wf1.r
      have tf1 : σf1.1 23 = bI true := by rw [wf1.1 23 (by decide)]; exact h23
      have xf1 := Lse.eq hx0 (wf1.1 27 (by decide)) (by rw [wf1.2.1])
      have zf1 : σf1.2.1 = σ'.2.1 := wf1.2.1.trans rfl
      have gf1 : freeF c (2 * k) (1) (0) (0) = decide (K < rkN (addL (liR c) (liN c) (lineV (2 * k) (1) (0) (0) 0 0)) (liN c + 1)) := by unfold freeF; rw [hK]
      rw [← gf1]
      show xX G l _ (d + 4) _ _ _ [.int (bI (freeF c (2 * k) (1) (0) (0)))] M N S
      refine x_goto 136 dX9_rigid_112 (by decide) ?_
      refine x_istore (q := 138) (ls' := [(0, _), (1, _), (2, _), (3, _), (4, _), (5, _)]) [1, 2, 3, 4, 5, 0] dX9_rigid_136 rfl (by decide) rfl ?_
      refine x_iload (q := 140) dX9_rigid_138 rfl rfl ?_
      refine x_if_ne (q := 143) 175 dX9_rigid_140 (by decide) rfl (fun hc140 => ?_) (fun hc140 => ?_)
      · refine xn_iconst (q := 176) 1 dX9_rigid_175 rfl (by decide) ?_
        refine x_goto 180 dX9_rigid_176 (by decide) ?_
        refine x_istore (q := 182) (ls' := [(0, _), (1, _), (2, _), (3, _), (4, _), (5, _)]) [1, 2, 3, 4, 5, 0] dX9_rigid_180 rfl (by decide) rfl ?_
        refine x_iload (q := 184) dX9_rigid_182 rfl rfl ?_
        refine xn_if_ne (q := 187) 218 dX9_rigid_184 (by decide) rfl (by omega) (fun hc184 => ?_) (fun hc184 => absurd hc184 (by decide))
        refine xn_iconst (q := 219) 1 dX9_rigid_218 rfl (by decide) ?_
        refine x_goto 223 dX9_rigid_219 (by decide) ?_
        refine x_istore (q := 225) (ls' := [(0, _), (1, _), (2, _), (3, _), (4, _), (5, _)]) [1, 2, 3, 4, 5, 0] dX9_rigid_223 rfl (by decide) rfl ?_
        refine fin σf1 M true ?_ of1 tf1 lf1 xf1 hM _ _
        unfold freeP
        simp only [h0, hR0, hg0, decide_true, decide_false, if_true, if_false, reduceIte, Bool.not_true, Bool.not_false, Bool.and_true, Bool.true_and, Bool.and_false, Bool.false_and, Bool.or_false, Bool.false_or]
        try rw [show freeF c (2 * k) (1) (0) (0) = true from bI_ne.mp hc140]
        try rw [show freeF c (2 * k) (1) (0) (0) = false from bI_eq.mp hc140]
        try simp only [Bool.true_or, Bool.or_true, Bool.or_false, Bool.false_or]
      · refine x_iload_n (q := 144) dX9_rigid_143 rfl rfl ?_
        refine xn_if_le (q := 147) 179 dX9_rigid_144 (by decide) rfl (by omega) (fun hc144 => ?_) (fun hc144 => absurd hc144 (by omega))
        refine xn_iconst (q := 180) 0 dX9_rigid_179 rfl (by decide) ?_
        refine x_istore (q := 182) (ls' := [(0, _), (1, _), (2, _), (3, _), (4, _), (5, _)]) [1, 2, 3, 4, 5, 0] dX9_rigid_180 rfl (by decide) rfl ?_
        refine x_iload (q := 184) dX9_rigid_182 rfl rfl ?_
        refine xn_if_ne (q := 187) 218 dX9_rigid_184 (by decide) rfl (by omega) (fun hc184 => absurd hc184 (by decide)) (fun hc184 => ?_)
        refine x_iload_n (q := 188) dX9_rigid_187 rfl rfl ?_
        refine xn_if_eq (q := 191) 222 dX9_rigid_188 (by decide) rfl (by omega) (fun hc188 => absurd hc188 (by decide)) (fun hc188 => ?_)
        refine x_aload_n (q := 192) dX9_rigid_191 rfl rfl ?_
        refine m_get (q := 195) hM 6 fwX9_19 (by decide) dX9_rigid_192 rfl rfl ?_
        refine xn_iconst (q := 196) 2 dX9_rigid_195 rfl (by decide) ?_
        refine x_iload_n (q := 197) dX9_rigid_196 rfl rfl ?_
        refine xn_imul (q := 198) dX9_rigid_197 rfl ?_
        refine m_zald (q := 199) hM (n := 6) (by decide) dX9_rigid_198 rfl (by omega) ?_
        rw [zf1, hHr hR0, hg0]
        refine x_if_ne (q := 202) 222 dX9_rigid_199 (by decide) rfl (fun hc199 => ?_) (fun hc199 => absurd hc199 (by decide))
        refine xn_iconst (q := 223) 0 dX9_rigid_222 rfl (by decide) ?_
        refine x_istore (q := 225) (ls' := [(0, _), (1, _), (2, _), (3, _), (4, _), (5, _)]) [1, 2, 3, 4, 5, 0] dX9_rigid_223 rfl (by decide) rfl ?_
        refine fin σf1 M false ?_ of1 tf1 lf1 xf1 hM _ _
        unfold freeP
        simp only [h0, hR0, hg0, decide_true, decide_false, if_true, if_false, reduceIte, Bool.not_true, Bool.not_false, Bool.and_true, Bool.true_and, Bool.and_false, Bool.false_and, Bool.or_false, Bool.false_or]
        try rw [show freeF c (2 * k) (1) (0) (0) = true from bI_ne.mp hc140]
        try rw [show freeF c (2 * k) (1) (0) (0) = false from bI_eq.mp hc140]
        try simp only [Bool.true_or, Bool.or_true, Bool.or_false, Bool.false_or]
  · exact absurd hR0 (by omega)
set_option maxRecDepth 100000 in
set_option maxHeartbeats 4000000 in
theorem c_rigid_3 (G : xG) (l : Launch) (o : Nat) (as : Nat → Nat) (M0 : xM) (N S : Nat) (d : Nat) (σ : mS) (c : mCf) (hc : Cf σ c) (hok : rigOk c) (hlo : looseB c = true) (Q : xPost)
    (hx : ∀ σ' M, onlyR σ σ' → σ'.1 23 = bI true → Lse σ' (lsN c (c.m + 1)) → mAt o as σ' M0 M → xX G l YX9_rigid (d + 4) Q 256 [(0, .ref o), (1, .int (nI (liK c))), (2, .int (nI (c.m + 1)))] [] M N S) :
    ∀ (u k : Nat), k + u = c.m + 1 → ∀ σ' M, onlyR σ σ' → σ'.1 23 = bI true → Lns σ' (liR c) (liN c) → Lse σ' (lsN c k) → mAt o as σ' M0 M → xX G l YX9_rigid (d + 4) Q 61 [(0, .ref o), (1, .int (nI (liK c))), (2, .int (nI k))] [] M N S := by
  intro u
  induction u with
  | zero =>
    intro k hk σ' M ho h23 hl hxs hM
    obtain rfl : k = c.m + 1 := by omega
    obtain ⟨ok, hm, -⟩ := id (ho.cf hc)
    have m3 := ok.2.1
    refine x_iload_n (q := 62) dX9_rigid_61 rfl rfl ?_
    refine x_aload_n (q := 63) dX9_rigid_62 rfl rfl ?_
    refine m_get (q := 66) hM 3 fwX9_93 (by decide) dX9_rigid_63 rfl rfl ?_
    rw [hm]
    refine xn_icmp_gt (q := 69) 256 dX9_rigid_66 (by decide) rfl (by omega) (by omega) (fun hc66 => ?_) (fun hc66 => absurd hc66 (by omega))
    exact hx σ' M ho h23 hxs hM
  | succ u ih =>
    intro k hk σ' M ho h23 hl hxs hM
    exact c_rigid_2 G l o as M0 N S d σ c hc hok k (by omega) hlo σ' M ho h23 hl hxs hM Q (fun σ2 M o2 e2 l2 x2 hM => ih (k + 1) (by omega) σ2 M o2 e2 l2 x2 hM)
/-- what the reference knows of looseness -/
def Lsd (σ : mS) (c : mCf) : Prop := σ.1 23 = bI (looseB c) ∧ (looseB c = true → Lse σ (lsN c (c.m + 1)))
set_option maxRecDepth 100000 in
set_option maxHeartbeats 4000000 in
theorem c_rigid (G : xG) (l : Launch) (o : Nat) (as : Nat → Nat) (M0 : xM) (N S : Nat) (d : Nat) (σ : mS) (c : mCf) (hc : Cf σ c) (hok : rigOk c) : mC G l o as M0 N S YX9_rigid (d + 4) [] σ (fun x σ' => x = none ∧ onlyR σ σ' ∧ Lsd σ' c) := by
  obtain ⟨ok, hm, -⟩ := id hc
  have m3 := ok.2.1
  have hKl : liK c ≤ liN c := (rkS_le (liR c) (liN c) 6).1
  have hNl : liN c ≤ 16 := by have := nlS_le c (c.m + 1); unfold liN; omega
  refine mC.of (ls := [(0, .ref o)]) (by decide) (Nat.le_of_ble_eq_true rfl) rfl fun M hM => ?_
  refine x_aload_n (q := 1) dX9_rigid_0 rfl rfl ?_
  refine xn_iconst (q := 2) 0 dX9_rigid_1 rfl (by decide) ?_
  refine m_putG (q := 5) hM 25 fwX9_224 (by decide) rfl rfl rfl dX9_rigid_2 rfl rfl rfl (fun M σ2 a2 e2 b2 hM => ?_)
  refine xn_iconst (q := 6) 0 dX9_rigid_5 rfl (by decide) ?_
  refine x_istore_n (q := 7) (ls' := [(0, _), (1, _)]) [1, 0] dX9_rigid_6 rfl (by decide) rfl ?_
  have q0 : onlyR σ σ2 := ⟨fun k a _ _ => a2 k a, fun k _ => by rw [b2], fun k _ _ => by rw [b2]⟩
  refine c_rigid_1 G l o as M0 N S (d + 2) σ2 c (q0.cf hc) _ (fun σ3 M o3 l3 hM => ?_) (c.m + 1) 0 (Nat.zero_add _) σ2 M onlyL.rfl' ⟨e2, fun i j hi => absurd hi (Nat.not_lt_zero i)⟩ hM
  have hm3 : σ3.1 3 = nI c.m := by rw [o3.1 3 (by decide), a2 3 (by decide)]; exact hm
  refine x_aload_n (q := 27) dX9_rigid_26 rfl rfl ?_
  refine x_aload_n (q := 28) dX9_rigid_27 rfl rfl ?_
  refine m_get (q := 31) hM 25 fwX9_224 (by decide) dX9_rigid_28 rfl rfl ?_
  rw [l3.1]
  refine m_call (q := 34) (As := [_]) hM imX9_rank ivX9_rank ilX9_rank mwX9_238 xciX9 dX9_rigid_31 rfl rfl rfl (Nat.le_of_ble_eq_true rfl) ?_
  refine (c_rankR G l o as M0 N S (d + 1) σ3 (liR c) (liN c) (liN c) (by omega) (Nat.le_refl _) l3 hok.1 hok.2.1).mono (fun x σ9 hp => ?_)
  obtain ⟨o9, rfl⟩ := hp
  intro M hM
  show xX G l _ (d + 4) _ _ _ [.int (nI (liK c))] M N S
  have hm9 : σ9.1 3 = nI c.m := by rw [o9.1]; exact hm3
  refine x_istore_n (q := 35) (ls' := [(0, _), (1, _)]) [1, 0] dX9_rigid_34 rfl (by decide) rfl ?_
  refine x_aload_n (q := 36) dX9_rigid_35 rfl rfl ?_
  refine x_iload_n (q := 37) dX9_rigid_36 rfl rfl ?_
  refine xn_iconst (q := 38) 2 dX9_rigid_37 rfl (by decide) ?_
  refine x_aload_n (q := 39) dX9_rigid_38 rfl rfl ?_
  refine m_get (q := 42) hM 3 fwX9_93 (by decide) dX9_rigid_39 rfl rfl ?_
  rw [hm9]
  refine xn_imul (q := 43) dX9_rigid_42 rfl ?_
  refine xn_icmp_ge (q := 46) 50 dX9_rigid_43 (by decide) rfl (by omega) (by omega) (fun hc43 => ?_) (fun hc43 => ?_)
  · refine xn_iconst (q := 51) 0 dX9_rigid_50 rfl (by decide) ?_
    refine m_putG (q := 54) hM 23 fwX9_212 (by decide) rfl rfl rfl dX9_rigid_51 rfl rfl rfl (fun M σ51 a51 e51 b51 hM => ?_)
    refine x_aload_n (q := 55) dX9_rigid_54 rfl rfl ?_
    refine xn_iconst (q := 56) 0 dX9_rigid_55 rfl (by decide) ?_
    refine m_putG (q := 59) hM 27 fwX9_245 (by decide) rfl rfl rfl dX9_rigid_56 rfl rfl rfl (fun M σ56 a56 e56 b56 hM => ?_)
    refine xn_iconst (q := 60) 0 dX9_rigid_59 rfl (by decide) ?_
    refine x_istore_n (q := 61) (ls' := [(0, _), (1, _), (2, _)]) [1, 2, 0] dX9_rigid_60 rfl (by decide) rfl ?_
    have hlb : looseB c = false := decide_eq_false (by omega)
    have q9 : onlyR σ σ56 := (q0.trans (o3.lw.r.trans o9.lw.r)).trans ⟨fun k a b c => by rw [a56 k c, a51 k b], fun k _ => by rw [b56, b51], fun k _ _ => by rw [b56, b51]⟩
    have hm5 : σ56.1 3 = nI c.m := by rw [a56 3 (by decide), a51 3 (by decide), o9.1]; exact hm3
    have h235 : σ56.1 23 = nI 0 := by rw [a56 23 (by decide)]; exact e51
    refine x_iload_n (q := 62) dX9_rigid_61 rfl rfl ?_
    refine x_aload_n (q := 63) dX9_rigid_62 rfl rfl ?_
    refine m_get (q := 66) hM 3 fwX9_93 (by decide) dX9_rigid_63 rfl rfl ?_
    rw [hm5]
    refine xn_icmp_gt (q := 69) 256 dX9_rigid_66 (by decide) rfl (by omega) (by omega) (fun hc66 => absurd hc66 (by omega)) (fun hc66 => ?_)
    refine x_aload_n (q := 70) dX9_rigid_69 rfl rfl ?_
    refine m_get (q := 73) hM 23 fwX9_212 (by decide) dX9_rigid_70 rfl rfl ?_
    rw [h235]
    refine xn_if_eq (q := 76) 256 dX9_rigid_73 (by decide) rfl (by omega) (fun hc73 => ?_) (fun hc73 => absurd rfl hc73)
    exact x_vret rfl dX9_rigid_256 (m_ret hM ⟨rfl, q9, by rw [h235, hlb]; rfl, fun h => by rw [hlb] at h; exact absurd h (by decide)⟩)
  · refine xn_iconst (q := 47) 1 dX9_rigid_46 rfl (by decide) ?_
    refine x_goto 51 dX9_rigid_47 (by decide) ?_
    refine m_putG (q := 54) hM 23 fwX9_212 (by decide) rfl rfl rfl dX9_rigid_51 rfl rfl rfl (fun M σ51 a51 e51 b51 hM => ?_)
    refine x_aload_n (q := 55) dX9_rigid_54 rfl rfl ?_
    refine xn_iconst (q := 56) 0 dX9_rigid_55 rfl (by decide) ?_
    refine m_putG (q := 59) hM 27 fwX9_245 (by decide) rfl rfl rfl dX9_rigid_56 rfl rfl rfl (fun M σ56 a56 e56 b56 hM => ?_)
    refine xn_iconst (q := 60) 0 dX9_rigid_59 rfl (by decide) ?_
    refine x_istore_n (q := 61) (ls' := [(0, _), (1, _), (2, _)]) [1, 2, 0] dX9_rigid_60 rfl (by decide) rfl ?_
    have hlb : looseB c = true := decide_eq_true hc43
    have q9 : onlyR σ σ56 := (q0.trans (o3.lw.r.trans o9.lw.r)).trans ⟨fun k a b c => by rw [a56 k c, a51 k b], fun k _ => by rw [b56, b51], fun k _ _ => by rw [b56, b51]⟩
    have h235 : σ56.1 23 = bI true := by rw [a56 23 (by decide)]; exact e51
    refine c_rigid_3 G l o as M0 N S d σ c hc hok hlb _ (fun σ6 M o6 e6 x6 hM => ?_) (c.m + 1) 0 (Nat.zero_add _) σ56 M q9 h235 (l3.eq (by rw [a56 25 (by decide), a51 25 (by decide), o9.1]) (by rw [b56, b51]; exact o9.2.2 24 (by decide))) ⟨e56, fun i hi => absurd hi (Nat.not_lt_zero i)⟩ hM
    exact x_vret rfl dX9_rigid_256 (m_ret hM ⟨rfl, o6, by rw [e6, hlb], fun _ => x6⟩)
end XP1
