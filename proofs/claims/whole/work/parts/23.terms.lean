section XF
/-- a row of beams: how many; lengths; stiffnesses; hinges; held in height; in turning; settled -/
abbrev mCf : Type := Nat × (Nat → Nat) × (Nat → Nat) × (Nat → Bool) × (Nat → Bool) × (Nat → Bool) × (Nat → Int)
abbrev mCf.m (c : mCf) : Nat := c.1
abbrev mCf.L (c : mCf) : Nat → Nat := c.2.1
abbrev mCf.E (c : mCf) : Nat → Nat := c.2.2.1
abbrev mCf.Hg (c : mCf) : Nat → Bool := c.2.2.2.1
abbrev mCf.Hi (c : mCf) : Nat → Bool := c.2.2.2.2.1
abbrev mCf.Tu (c : mCf) : Nat → Bool := c.2.2.2.2.2.1
abbrev mCf.Se (c : mCf) : Nat → Int := c.2.2.2.2.2.2
def bI (b : Bool) : Int32 := match b with | true => 1 | false => 0
def okCf (c : mCf) : Prop := 1 ≤ c.m ∧ c.m ≤ 3 ∧ (∀ k, k < 3 → 1 ≤ c.L k ∧ c.L k ≤ 12) ∧ (∀ k, k < 3 → 1 ≤ c.E k ∧ c.E k ≤ 12) ∧ ∀ k, k < 4 → -1000 ≤ c.Se k ∧ c.Se k ≤ 1000
/-- the reference holds this row of beams -/
def Cf (σ : mS) (c : mCf) : Prop := okCf c ∧ σ.1 3 = nI c.m ∧ (∀ k, k < c.m → σ.2.1 4 k = nI (c.L k)) ∧ (∀ k, k < c.m → σ.2.1 5 k = nI (c.E k)) ∧ (∀ k, k < 6 → σ.2.1 6 k = bI (c.Hg k)) ∧ (∀ k, k < 4 → σ.2.1 7 k = bI (c.Hi k)) ∧ (∀ k, k < 4 → σ.2.1 8 k = bI (c.Tu k)) ∧ ∀ k, k < 4 → σ.2.1 9 k = iI (c.Se k)
def Td (σ : mS) (T : Nat → Int) : Prop := ∀ j, j < 336 → σ.2.2 20 j = iL (T j)
def onlyT (σ σ' : mS) : Prop := σ'.1 = σ.1 ∧ σ'.2.1 = σ.2.1 ∧ ∀ k, k ≠ 20 → σ'.2.2 k = σ.2.2 k
theorem onlyT.rfl' {σ : mS} : onlyT σ σ := ⟨rfl, rfl, fun _ _ => rfl⟩
theorem onlyT.trans {σ σ' σ'' : mS} (h : onlyT σ σ') (h2 : onlyT σ' σ'') : onlyT σ σ'' := ⟨h2.1.trans h.1, h2.2.1.trans h.2.1, fun k hk => (h2.2.2 k hk).trans (h.2.2 k hk)⟩
theorem onlyT.cf {σ σ' : mS} {c : mCf} (h : onlyT σ σ') (hc : Cf σ c) : Cf σ' c := by
  unfold Cf at *
  rw [h.1, h.2.1]
  exact hc
def addT (T : Nat → Int) (i : Nat) (z : Int) : Nat → Int := fun j => if j = i then T j + z else T j
theorem addT_s (T : Nat → Int) (i : Nat) (z : Int) : addT T i z i = T i + z := if_pos rfl
theorem addT_n {T : Nat → Int} {i j : Nat} {z : Int} (h : j ≠ i) : addT T i z j = T j := if_neg h
def colP (c : mCf) (b p : Nat) : Nat := 4 * c.m + 5 * b + p
def powP (kind : Nat) (x : Int) : Int := if kind = 0 then 1 else if kind = 1 then x else if kind = 2 then x * x else x * x * x
def behP (c : mCf) (b p : Nat) : Int := (c.L b : Int) * (4 - (p : Int))
def loadsP (c : mCf) (r : Nat) (T : Nat → Int) (b kind : Nat) (by0 : Int) : Nat → Int :=
  addT (addT (addT T (28 * r + colP c b 1) (-(by0 * powP kind (behP c b 1)))) (28 * r + colP c b 2) (-(by0 * powP kind (behP c b 2)))) (28 * r + colP c b 3) (-(by0 * powP kind (behP c b 3)))
def rMoveP (c : mCf) (r : Nat) (T : Nat → Int) (b : Nat) : Nat → Int :=
  loadsP c r (addT (addT (addT (addT T (28 * r + 4 * b) (384 * c.E b)) (28 * r + (4 * b + 1)) (384 * c.E b * c.L b)) (28 * r + (4 * b + 2)) (-192 * c.L b * c.L b)) (28 * r + (4 * b + 3)) (-64 * c.L b * c.L b * c.L b)) b 3 1
def rTurnP (c : mCf) (r : Nat) (T : Nat → Int) (b : Nat) : Nat → Int :=
  loadsP c r (addT (addT (addT T (28 * r + (4 * b + 1)) (32 * c.E b)) (28 * r + (4 * b + 2)) (-32 * c.L b)) (28 * r + (4 * b + 3)) (-16 * c.L b * c.L b)) b 2 1
def rMomP (c : mCf) (r : Nat) (T : Nat → Int) (b : Nat) (by0 : Int) : Nat → Int :=
  loadsP c r (addT (addT T (28 * r + (4 * b + 2)) (4 * by0)) (28 * r + (4 * b + 3)) (4 * by0 * c.L b)) b 1 (-by0)
set_option maxRecDepth 100000 in
set_option maxHeartbeats 4000000 in
theorem c_column (G : xG) (l : Launch) (o : Nat) (as : Nat → Nat) (M0 : xM) (N S : Nat) (d : Nat) (σ : mS) (m b p : Nat) (hm : σ.1 3 = nI m) : mC G l o as M0 N S YX9_column d [.int (nI b), .int (nI p)] σ (fun x σ' => x = some (.int (nI (4 * m + 5 * b + p))) ∧ σ' = σ) := by
  refine mC.of (ls := [(0, .ref o), (1, .int (nI b)), (2, .int (nI p))]) (by decide) (Nat.le_of_ble_eq_true rfl) rfl fun M hM => ?_
  refine xn_iconst (q := 1) 4 dX9_column_0 rfl (by decide) ?_
  refine x_aload_n (q := 2) dX9_column_1 rfl rfl ?_
  refine m_get (q := 5) hM 3 fwX9_93 (by decide) dX9_column_2 rfl rfl ?_
  rw [hm]
  refine xn_imul (q := 6) dX9_column_5 rfl ?_
  refine xn_iconst (q := 7) 5 dX9_column_6 rfl (by decide) ?_
  refine x_iload_n (q := 8) dX9_column_7 rfl rfl ?_
  refine xn_imul (q := 9) dX9_column_8 rfl ?_
  refine xn_iadd (q := 10) dX9_column_9 rfl ?_
  refine x_iload_n (q := 11) dX9_column_10 rfl rfl ?_
  refine xn_iadd (q := 12) dX9_column_11 rfl ?_
  exact x_iret rfl dX9_column_12 (m_ret hM ⟨rfl, rfl⟩)
set_option maxRecDepth 100000 in
set_option maxHeartbeats 4000000 in
theorem c_settling (G : xG) (l : Launch) (o : Nat) (as : Nat → Nat) (M0 : xM) (N S : Nat) (d : Nat) (σ : mS) (m : Nat) (hm : σ.1 3 = nI m) : mC G l o as M0 N S YX9_settling d [] σ (fun x σ' => x = some (.int (nI (9 * m))) ∧ σ' = σ) := by
  refine mC.of (ls := [(0, .ref o)]) (by decide) (Nat.le_of_ble_eq_true rfl) rfl fun M hM => ?_
  refine xn_bipush (q := 2) 9 dX9_settling_0 rfl (by decide) ?_
  refine x_aload_n (q := 3) dX9_settling_2 rfl rfl ?_
  refine m_get (q := 6) hM 3 fwX9_93 (by decide) dX9_settling_3 rfl rfl ?_
  rw [hm]
  refine xn_imul (q := 7) dX9_settling_6 rfl ?_
  exact x_iret rfl dX9_settling_7 (m_ret hM ⟨rfl, rfl⟩)
set_option maxRecDepth 100000 in
set_option maxHeartbeats 4000000 in
theorem c_term (G : xG) (l : Launch) (o : Nat) (as : Nat → Nat) (M0 : xM) (N S : Nat) (d : Nat) (σ : mS) (r i : Nat) (T : Nat → Int) (v : Int64) (z : Int) (hv : v = iL z) (hr : σ.1 21 = nI r) (hi : 28 * r + i < 336) (hT : Td σ T) : mC G l o as M0 N S YX9_term d [.int (nI i), .long v] σ (fun x σ' => x = none ∧ onlyT σ σ' ∧ Td σ' (addT T (28 * r + i) z)) := by
  subst hv
  refine mC.of (ls := [(0, .ref o), (1, .int (nI i)), (2, .long (iL z))]) (by decide) (Nat.le_of_ble_eq_true rfl) rfl fun M hM => ?_
  refine x_aload_n (q := 1) dX9_term_0 rfl rfl ?_
  refine m_get (q := 4) hM 20 fwX9_59 (by decide) dX9_term_1 rfl rfl ?_
  refine xn_bipush (q := 6) 28 dX9_term_4 rfl (by decide) ?_
  refine x_aload_n (q := 7) dX9_term_6 rfl rfl ?_
  refine m_get (q := 10) hM 21 fwX9_139 (by decide) dX9_term_7 rfl rfl ?_
  rw [hr]
  refine xn_imul (q := 11) dX9_term_10 rfl ?_
  refine x_iload_n (q := 12) dX9_term_11 rfl rfl ?_
  refine xn_iadd (q := 13) dX9_term_12 rfl ?_
  refine x_dup2 (q := 14) dX9_term_13 rfl rfl rfl ?_
  refine m_lald (q := 15) hM (n := 336) (by decide) dX9_term_14 rfl (by omega) ?_
  rw [hT _ (by omega)]
  refine x_lload_n (q := 16) dX9_term_15 rfl rfl ?_
  refine xi_ladd (q := 17) dX9_term_16 rfl rfl rfl ?_
  refine m_lastG (q := 18) hM (n := 336) (by decide) dX9_term_17 rfl (by omega) (fun M σ17 a17 b17 c17 e17 f17 hM => ?_)
  refine x_vret rfl dX9_term_18 (m_ret hM ⟨rfl, ⟨a17, b17, c17⟩, fun j hj => ?_⟩)
  by_cases e : j = 28 * r + i
  · rw [e, e17, addT_s]
  · rw [f17 j e, addT_n e]; exact hT j hj
set_option maxRecDepth 100000 in
set_option maxHeartbeats 4000000 in
theorem c_loads (G : xG) (l : Launch) (o : Nat) (as : Nat → Nat) (M0 : xM) (N S : Nat) (d : Nat) (σ : mS) (c : mCf) (r b kind : Nat) (T : Nat → Int) (v : Int64) (z : Int) (hv : v = iL z) (hc : Cf σ c) (hr : σ.1 21 = nI r) (hr2 : r < 12) (hb : b < c.m) (hk : kind < 4) (hT : Td σ T) : mC G l o as M0 N S YX9_loads (d + 1) [.int (nI b), .int (nI kind), .long v] σ (fun x σ' => x = none ∧ onlyT σ σ' ∧ Td σ' (loadsP c r T b kind z)) := by
  subst hv
  obtain ⟨ok, hm, hL, hE, hH, hHi, hTu, hSe⟩ := id hc
  obtain ⟨m1, m3, okL, okE, okS⟩ := ok
  have hLb := hL b (by omega)
  have okb := okL b (by omega)
  have step : ∀ (p : Nat), 1 ≤ p → p < 4 → ∀ (σ1 : mS) (T1 : Nat → Int) (M : xM) (Q : xPost), onlyT σ σ1 → Td σ1 T1 → mAt o as σ1 M0 M →
      (∀ σ2 M, onlyT σ σ2 → Td σ2 (addT T1 (28 * r + colP c b p) (-(z * powP kind (behP c b p)))) → mAt o as σ2 M0 M → xX G l YX9_loads (d + 1) Q 3 [(0, .ref o), (1, .int (nI b)), (2, .int (nI kind)), (3, .long (iL z)), (5, .int (nI (p + 1)))] [] M N S) →
      xX G l YX9_loads (d + 1) Q 3 [(0, .ref o), (1, .int (nI b)), (2, .int (nI kind)), (3, .long (iL z)), (5, .int (nI p))] [] M N S := by
    intro p hp1 hp4 σ1 T1 M Q ho hT1 hM kk
    have hr1 : σ1.1 21 = nI r := by rw [ho.1]; exact hr
    have hm1 : σ1.1 3 = nI c.m := by rw [ho.1]; exact hm
    have hL1 : σ1.2.1 4 b = nI (c.L b) := by rw [ho.2.1]; exact hLb
    have fin : ∀ (v : Int64), v = iL (powP kind (behP c b p)) → xX G l YX9_loads (d + 1) Q 67 [(0, .ref o), (1, .int (nI b)), (2, .int (nI kind)), (3, .long (iL z)), (5, .int (nI p)), (6, .long (lN (c.L b * (4 - p)))), (8, .long v)] [] M N S := by
      intro v hv
      subst hv
      refine x_aload_n (q := 68) dX9_loads_67 rfl rfl ?_
      refine m_get (q := 71) hM 20 fwX9_59 (by decide) dX9_loads_68 rfl rfl ?_
      refine xn_bipush (q := 73) 28 dX9_loads_71 rfl (by decide) ?_
      refine x_aload_n (q := 74) dX9_loads_73 rfl rfl ?_
      refine m_get (q := 77) hM 21 fwX9_139 (by decide) dX9_loads_74 rfl rfl ?_
      rw [hr1]
      refine xn_imul (q := 78) dX9_loads_77 rfl ?_
      refine x_aload_n (q := 79) dX9_loads_78 rfl rfl ?_
      refine x_iload_n (q := 80) dX9_loads_79 rfl rfl ?_
      refine x_iload (q := 82) dX9_loads_80 rfl rfl ?_
      refine m_call (q := 85) (As := [_, _]) hM imX9_column ivX9_column ilX9_column mwX9_144 xciX9 dX9_loads_82 rfl rfl rfl (Nat.le_of_ble_eq_true rfl) ?_
      refine (c_column G l o as M0 N S d σ1 c.m b p hm1).mono (fun x σ9 hp => ?_)
      obtain ⟨rfl, e9⟩ := hp
      intro M hM
      rw [e9] at hM
      clear e9 σ9
      show xX G l _ (d + 1) _ _ _ [.int (nI (4 * c.m + 5 * b + p)), .int (nI (28 * r)), .ref (as 20)] M N S
      refine xn_iadd (q := 86) dX9_loads_85 rfl ?_
      refine x_dup2 (q := 87) dX9_loads_86 rfl rfl rfl ?_
      refine m_lald (q := 88) hM (n := 336) (by decide) dX9_loads_87 rfl (by omega) ?_
      rw [hT1 _ (by omega)]
      refine x_lload_n (q := 89) dX9_loads_88 rfl rfl ?_
      refine x_lload (q := 91) dX9_loads_89 rfl rfl ?_
      refine xi_lmul (q := 92) dX9_loads_91 rfl rfl rfl ?_
      refine xi_lsub (q := 93) dX9_loads_92 rfl rfl rfl ?_
      refine m_lastG (q := 94) hM (n := 336) (by decide) dX9_loads_93 rfl (by omega) (fun M σ93 a93 b93 c93 e93 f93 hM => ?_)
      refine xn_iinc (q := 97) (ls' := [(0, _), (1, _), (2, _), (3, _), (5, _), (6, _), (8, _)]) [1, 2, 3, 4, 0, 5, 6] 1 dX9_loads_94 rfl rfl (by decide) (by decide) rfl ?_
      refine x_goto 3 dX9_loads_97 (by decide) ?_
      refine x_ls (ls' := [(0, _), (1, _), (2, _), (3, _), (5, _)]) [0, 1, 2, 3, 4] rfl ?_
      refine kk σ93 M (ho.trans ⟨a93, b93, c93⟩) (fun j hj => ?_) hM
      by_cases e : j = 28 * r + colP c b p
      · rw [e]; exact e93.trans (by rw [addT_s]; rfl)
      · rw [f93 j e, addT_n e]; exact hT1 j hj
    have eb : (lN (c.L b * (4 - p)) : Int64) = iL (behP c b p) := by
      rw [lN_i']
      unfold behP
      rw [Int.natCast_mul, Int.ofNat_sub (by omega)]
      rfl
    rcases (show kind = 0 ∨ kind = 1 ∨ kind = 2 ∨ kind = 3 by omega) with e | e | e | e <;> subst e
    · refine x_iload (q := 5) dX9_loads_3 rfl rfl ?_
      refine xn_iconst (q := 6) 4 dX9_loads_5 rfl (by decide) ?_
      refine xn_icmp_ge (q := 9) 100 dX9_loads_6 (by decide) rfl (by omega) (by omega) (fun hc6 => absurd hc6 (by omega)) (fun hc6 => ?_)
      refine x_aload_n (q := 10) dX9_loads_9 rfl rfl ?_
      refine m_get (q := 13) hM 4 fwX9_13 (by decide) dX9_loads_10 rfl rfl ?_
      refine x_iload_n (q := 14) dX9_loads_13 rfl rfl ?_
      refine m_iald (q := 15) hM (n := 3) (by decide) dX9_loads_14 rfl (by omega) ?_
      rw [hL1]
      refine xn_i2l (q := 16) dX9_loads_15 rfl (by omega) ?_
      refine xn_ldc2 (q := 19) 4 dX9_loads_16 rfl cwX9_142 ?_
      refine x_iload (q := 21) dX9_loads_19 rfl rfl ?_
      refine xn_i2l (q := 22) dX9_loads_21 rfl (by omega) ?_
      refine xn_lsub (q := 23) dX9_loads_22 rfl (by omega) ?_
      refine xn_lmul (q := 24) dX9_loads_23 rfl ?_
      refine x_lstore (q := 26) (ls' := [(0, _), (1, _), (2, _), (3, _), (5, _), (6, _)]) [1, 2, 3, 4, 5, 0] dX9_loads_24 rfl (by decide) rfl ?_
      refine x_iload_n (q := 27) dX9_loads_26 rfl rfl ?_
      refine xn_if_ne (q := 30) 34 dX9_loads_27 (by decide) rfl (by omega) (fun hc27 => absurd hc27 (by decide)) (fun hc27 => ?_)
      refine xn_lconst (q := 31) 1 dX9_loads_30 rfl (by decide) ?_
      refine x_goto 65 dX9_loads_31 (by decide) ?_
      refine x_lstore (q := 67) (ls' := [(0, _), (1, _), (2, _), (3, _), (5, _), (6, _), (8, _)]) [1, 2, 3, 4, 5, 6, 0] dX9_loads_65 rfl (by decide) rfl ?_
      exact fin _ rfl
    · refine x_iload (q := 5) dX9_loads_3 rfl rfl ?_
      refine xn_iconst (q := 6) 4 dX9_loads_5 rfl (by decide) ?_
      refine xn_icmp_ge (q := 9) 100 dX9_loads_6 (by decide) rfl (by omega) (by omega) (fun hc6 => absurd hc6 (by omega)) (fun hc6 => ?_)
      refine x_aload_n (q := 10) dX9_loads_9 rfl rfl ?_
      refine m_get (q := 13) hM 4 fwX9_13 (by decide) dX9_loads_10 rfl rfl ?_
      refine x_iload_n (q := 14) dX9_loads_13 rfl rfl ?_
      refine m_iald (q := 15) hM (n := 3) (by decide) dX9_loads_14 rfl (by omega) ?_
      rw [hL1]
      refine xn_i2l (q := 16) dX9_loads_15 rfl (by omega) ?_
      refine xn_ldc2 (q := 19) 4 dX9_loads_16 rfl cwX9_142 ?_
      refine x_iload (q := 21) dX9_loads_19 rfl rfl ?_
      refine xn_i2l (q := 22) dX9_loads_21 rfl (by omega) ?_
      refine xn_lsub (q := 23) dX9_loads_22 rfl (by omega) ?_
      refine xn_lmul (q := 24) dX9_loads_23 rfl ?_
      refine x_lstore (q := 26) (ls' := [(0, _), (1, _), (2, _), (3, _), (5, _), (6, _)]) [1, 2, 3, 4, 5, 0] dX9_loads_24 rfl (by decide) rfl ?_
      refine x_iload_n (q := 27) dX9_loads_26 rfl rfl ?_
      refine xn_if_ne (q := 30) 34 dX9_loads_27 (by decide) rfl (by omega) (fun hc27 => ?_) (fun hc27 => absurd hc27 (by decide))
      refine x_iload_n (q := 35) dX9_loads_34 rfl rfl ?_
      refine xn_iconst (q := 36) 1 dX9_loads_35 rfl (by decide) ?_
      refine xn_icmp_ne (q := 39) 44 dX9_loads_36 (by decide) rfl (by omega) (by omega) (fun hc36 => absurd hc36 (by decide)) (fun hc36 => ?_)
      refine x_lload (q := 41) dX9_loads_39 rfl rfl ?_
      refine x_goto 65 dX9_loads_41 (by decide) ?_
      refine x_lstore (q := 67) (ls' := [(0, _), (1, _), (2, _), (3, _), (5, _), (6, _), (8, _)]) [1, 2, 3, 4, 5, 6, 0] dX9_loads_65 rfl (by decide) rfl ?_
      exact fin _ eb
    · refine x_iload (q := 5) dX9_loads_3 rfl rfl ?_
      refine xn_iconst (q := 6) 4 dX9_loads_5 rfl (by decide) ?_
      refine xn_icmp_ge (q := 9) 100 dX9_loads_6 (by decide) rfl (by omega) (by omega) (fun hc6 => absurd hc6 (by omega)) (fun hc6 => ?_)
      refine x_aload_n (q := 10) dX9_loads_9 rfl rfl ?_
      refine m_get (q := 13) hM 4 fwX9_13 (by decide) dX9_loads_10 rfl rfl ?_
      refine x_iload_n (q := 14) dX9_loads_13 rfl rfl ?_
      refine m_iald (q := 15) hM (n := 3) (by decide) dX9_loads_14 rfl (by omega) ?_
      rw [hL1]
      refine xn_i2l (q := 16) dX9_loads_15 rfl (by omega) ?_
      refine xn_ldc2 (q := 19) 4 dX9_loads_16 rfl cwX9_142 ?_
      refine x_iload (q := 21) dX9_loads_19 rfl rfl ?_
      refine xn_i2l (q := 22) dX9_loads_21 rfl (by omega) ?_
      refine xn_lsub (q := 23) dX9_loads_22 rfl (by omega) ?_
      refine xn_lmul (q := 24) dX9_loads_23 rfl ?_
      refine x_lstore (q := 26) (ls' := [(0, _), (1, _), (2, _), (3, _), (5, _), (6, _)]) [1, 2, 3, 4, 5, 0] dX9_loads_24 rfl (by decide) rfl ?_
      refine x_iload_n (q := 27) dX9_loads_26 rfl rfl ?_
      refine xn_if_ne (q := 30) 34 dX9_loads_27 (by decide) rfl (by omega) (fun hc27 => ?_) (fun hc27 => absurd hc27 (by decide))
      refine x_iload_n (q := 35) dX9_loads_34 rfl rfl ?_
      refine xn_iconst (q := 36) 1 dX9_loads_35 rfl (by decide) ?_
      refine xn_icmp_ne (q := 39) 44 dX9_loads_36 (by decide) rfl (by omega) (by omega) (fun hc36 => ?_) (fun hc36 => absurd hc36 (by decide))
      refine x_iload_n (q := 45) dX9_loads_44 rfl rfl ?_
      refine xn_iconst (q := 46) 2 dX9_loads_45 rfl (by decide) ?_
      refine xn_icmp_ne (q := 49) 57 dX9_loads_46 (by decide) rfl (by omega) (by omega) (fun hc46 => absurd hc46 (by decide)) (fun hc46 => ?_)
      refine x_lload (q := 51) dX9_loads_49 rfl rfl ?_
      refine x_lload (q := 53) dX9_loads_51 rfl rfl ?_
      refine xn_lmul (q := 54) dX9_loads_53 rfl ?_
      refine x_goto 65 dX9_loads_54 (by decide) ?_
      refine x_lstore (q := 67) (ls' := [(0, _), (1, _), (2, _), (3, _), (5, _), (6, _), (8, _)]) [1, 2, 3, 4, 5, 6, 0] dX9_loads_65 rfl (by decide) rfl ?_
      exact fin _ (by rw [← lN_mul, eb, ← Int64.ofInt_mul]; rfl)
    · refine x_iload (q := 5) dX9_loads_3 rfl rfl ?_
      refine xn_iconst (q := 6) 4 dX9_loads_5 rfl (by decide) ?_
      refine xn_icmp_ge (q := 9) 100 dX9_loads_6 (by decide) rfl (by omega) (by omega) (fun hc6 => absurd hc6 (by omega)) (fun hc6 => ?_)
      refine x_aload_n (q := 10) dX9_loads_9 rfl rfl ?_
      refine m_get (q := 13) hM 4 fwX9_13 (by decide) dX9_loads_10 rfl rfl ?_
      refine x_iload_n (q := 14) dX9_loads_13 rfl rfl ?_
      refine m_iald (q := 15) hM (n := 3) (by decide) dX9_loads_14 rfl (by omega) ?_
      rw [hL1]
      refine xn_i2l (q := 16) dX9_loads_15 rfl (by omega) ?_
      refine xn_ldc2 (q := 19) 4 dX9_loads_16 rfl cwX9_142 ?_
      refine x_iload (q := 21) dX9_loads_19 rfl rfl ?_
      refine xn_i2l (q := 22) dX9_loads_21 rfl (by omega) ?_
      refine xn_lsub (q := 23) dX9_loads_22 rfl (by omega) ?_
      refine xn_lmul (q := 24) dX9_loads_23 rfl ?_
      refine x_lstore (q := 26) (ls' := [(0, _), (1, _), (2, _), (3, _), (5, _), (6, _)]) [1, 2, 3, 4, 5, 0] dX9_loads_24 rfl (by decide) rfl ?_
      refine x_iload_n (q := 27) dX9_loads_26 rfl rfl ?_
      refine xn_if_ne (q := 30) 34 dX9_loads_27 (by decide) rfl (by omega) (fun hc27 => ?_) (fun hc27 => absurd hc27 (by decide))
      refine x_iload_n (q := 35) dX9_loads_34 rfl rfl ?_
      refine xn_iconst (q := 36) 1 dX9_loads_35 rfl (by decide) ?_
      refine xn_icmp_ne (q := 39) 44 dX9_loads_36 (by decide) rfl (by omega) (by omega) (fun hc36 => ?_) (fun hc36 => absurd hc36 (by decide))
      refine x_iload_n (q := 45) dX9_loads_44 rfl rfl ?_
      refine xn_iconst (q := 46) 2 dX9_loads_45 rfl (by decide) ?_
      refine xn_icmp_ne (q := 49) 57 dX9_loads_46 (by decide) rfl (by omega) (by omega) (fun hc46 => ?_) (fun hc46 => absurd hc46 (by decide))
      refine x_lload (q := 59) dX9_loads_57 rfl rfl ?_
      refine x_lload (q := 61) dX9_loads_59 rfl rfl ?_
      refine xn_lmul (q := 62) dX9_loads_61 rfl ?_
      refine x_lload (q := 64) dX9_loads_62 rfl rfl ?_
      refine xn_lmul (q := 65) dX9_loads_64 rfl ?_
      refine x_lstore (q := 67) (ls' := [(0, _), (1, _), (2, _), (3, _), (5, _), (6, _), (8, _)]) [1, 2, 3, 4, 5, 6, 0] dX9_loads_65 rfl (by decide) rfl ?_
      exact fin _ (by rw [← lN_mul, ← lN_mul, eb, ← Int64.ofInt_mul, ← Int64.ofInt_mul]; rfl)
  refine mC.of (ls := [(0, .ref o), (1, .int (nI b)), (2, .int (nI kind)), (3, .long (iL z))]) (by decide) (Nat.le_of_ble_eq_true rfl) rfl fun M hM => ?_
  refine xn_iconst (q := 1) 1 dX9_loads_0 rfl (by decide) ?_
  refine x_istore (q := 3) (ls' := [(0, _), (1, _), (2, _), (3, _), (5, _)]) [1, 2, 3, 4, 0] dX9_loads_1 rfl (by decide) rfl ?_
  refine step 1 (by decide) (by decide) σ T M _ onlyT.rfl' hT hM (fun σ1 M o1 t1 hM => ?_)
  refine step 2 (by decide) (by decide) σ1 _ M _ o1 t1 hM (fun σ2 M o2 t2 hM => ?_)
  refine step 3 (by decide) (by decide) σ2 _ M _ o2 t2 hM (fun σ3 M o3 t3 hM => ?_)
  refine x_iload (q := 5) dX9_loads_3 rfl rfl ?_
  refine xn_iconst (q := 6) 4 dX9_loads_5 rfl (by decide) ?_
  refine xn_icmp_ge (q := 9) 100 dX9_loads_6 (by decide) rfl (by omega) (by omega) (fun hc6 => ?_) (fun hc6 => absurd hc6 (by decide))
  exact x_vret rfl dX9_loads_100 (m_ret hM ⟨rfl, o3, t3⟩)
set_option maxRecDepth 100000 in
set_option maxHeartbeats 4000000 in
theorem c_rightMove (G : xG) (l : Launch) (o : Nat) (as : Nat → Nat) (M0 : xM) (N S : Nat) (d : Nat) (σ : mS) (c : mCf) (r b : Nat) (T : Nat → Int) (hc : Cf σ c) (hr : σ.1 21 = nI r) (hr2 : r < 12) (hb : b < c.m) (hT : Td σ T) : mC G l o as M0 N S YX9_rightMove (d + 2) [.int (nI b)] σ (fun x σ' => x = none ∧ onlyT σ σ' ∧ Td σ' (rMoveP c r T b)) := by
  skip
  obtain ⟨ok, hm, hL, hE, hH, hHi, hTu, hSe⟩ := id hc
  obtain ⟨m1, m3, okL, okE, okS⟩ := ok
  have hLb := hL b (by omega)
  have okb := okL b (by omega)
  have hEb := hE b (by omega)
  have oke := okE b (by omega)
  have hcol : 4 * b + 4 ≤ 12 := by omega
  refine mC.of (ls := [(0, .ref o), (1, .int (nI b))]) (by decide) (Nat.le_of_ble_eq_true rfl) rfl fun M hM => ?_
  refine x_aload_n (q := 1) dX9_rightMove_0 rfl rfl ?_
  refine m_get (q := 4) hM 4 fwX9_13 (by decide) dX9_rightMove_1 rfl rfl ?_
  refine x_iload_n (q := 5) dX9_rightMove_4 rfl rfl ?_
  refine m_iald (q := 6) hM (n := 3) (by decide) dX9_rightMove_5 rfl (by omega) ?_
  rw [hLb]
  refine xn_i2l (q := 7) dX9_rightMove_6 rfl (by omega) ?_
  refine x_lstore_n (q := 8) (ls' := [(0, _), (1, _), (2, _)]) [1, 2, 0] dX9_rightMove_7 rfl (by decide) rfl ?_
  refine x_aload_n (q := 9) dX9_rightMove_8 rfl rfl ?_
  refine xn_iconst (q := 10) 4 dX9_rightMove_9 rfl (by decide) ?_
  refine x_iload_n (q := 11) dX9_rightMove_10 rfl rfl ?_
  refine xn_imul (q := 12) dX9_rightMove_11 rfl ?_
  refine xn_ldc2 (q := 15) 384 dX9_rightMove_12 rfl cwX9_147 ?_
  refine x_aload_n (q := 16) dX9_rightMove_15 rfl rfl ?_
  refine m_get (q := 19) hM 5 fwX9_16 (by decide) dX9_rightMove_16 rfl rfl ?_
  refine x_iload_n (q := 20) dX9_rightMove_19 rfl rfl ?_
  refine m_iald (q := 21) hM (n := 3) (by decide) dX9_rightMove_20 rfl (by omega) ?_
  rw [hEb]
  refine xn_i2l (q := 22) dX9_rightMove_21 rfl (by omega) ?_
  refine xn_lmul (q := 23) dX9_rightMove_22 rfl ?_
  refine m_call (q := 26) (As := [_, _]) hM imX9_term ivX9_term ilX9_term mwX9_149 xciX9 dX9_rightMove_23 rfl rfl rfl (Nat.le_of_ble_eq_true rfl) ?_
  refine (c_term G l o as M0 N S (d + 1) σ r (4 * b) _ _ (384 * c.E b) (by first | rfl | (simp only [lN_i', ← Int64.ofInt_mul, Int.natCast_mul]; rfl)) hr (by omega) hT).mono (fun x σ10 hp => ?_)
  obtain ⟨rfl, q10, t10⟩ := hp
  intro M hM
  have o10 : onlyT σ σ10 := q10
  show xX G l _ (d + 2) _ _ _ [] M N S
  have hL10 : σ10.2.1 4 b = nI (c.L b) := by rw [o10.2.1]; exact hLb
  have hE10 : σ10.2.1 5 b = nI (c.E b) := by rw [o10.2.1]; exact hEb
  refine x_aload_n (q := 27) dX9_rightMove_26 rfl rfl ?_
  refine xn_iconst (q := 28) 4 dX9_rightMove_27 rfl (by decide) ?_
  refine x_iload_n (q := 29) dX9_rightMove_28 rfl rfl ?_
  refine xn_imul (q := 30) dX9_rightMove_29 rfl ?_
  refine xn_iconst (q := 31) 1 dX9_rightMove_30 rfl (by decide) ?_
  refine xn_iadd (q := 32) dX9_rightMove_31 rfl ?_
  refine xn_ldc2 (q := 35) 384 dX9_rightMove_32 rfl cwX9_147 ?_
  refine x_aload_n (q := 36) dX9_rightMove_35 rfl rfl ?_
  refine m_get (q := 39) hM 5 fwX9_16 (by decide) dX9_rightMove_36 rfl rfl ?_
  refine x_iload_n (q := 40) dX9_rightMove_39 rfl rfl ?_
  refine m_iald (q := 41) hM (n := 3) (by decide) dX9_rightMove_40 rfl (by omega) ?_
  rw [hE10]
  refine xn_i2l (q := 42) dX9_rightMove_41 rfl (by omega) ?_
  refine xn_lmul (q := 43) dX9_rightMove_42 rfl ?_
  refine x_lload_n (q := 44) dX9_rightMove_43 rfl rfl ?_
  refine xn_lmul (q := 45) dX9_rightMove_44 rfl ?_
  refine m_call (q := 48) (As := [_, _]) hM imX9_term ivX9_term ilX9_term mwX9_149 xciX9 dX9_rightMove_45 rfl rfl rfl (Nat.le_of_ble_eq_true rfl) ?_
  refine (c_term G l o as M0 N S (d + 1) σ10 r (4 * b + 1) _ _ (384 * c.E b * c.L b) (by first | rfl | (simp only [lN_i', ← Int64.ofInt_mul, Int.natCast_mul]; rfl)) (by rw [o10.1]; exact hr) (by omega) t10).mono (fun x σ11 hp => ?_)
  obtain ⟨rfl, q11, t11⟩ := hp
  intro M hM
  have o11 : onlyT σ σ11 := o10.trans q11
  show xX G l _ (d + 2) _ _ _ [] M N S
  have hL11 : σ11.2.1 4 b = nI (c.L b) := by rw [o11.2.1]; exact hLb
  have hE11 : σ11.2.1 5 b = nI (c.E b) := by rw [o11.2.1]; exact hEb
  refine x_aload_n (q := 49) dX9_rightMove_48 rfl rfl ?_
  refine xn_iconst (q := 50) 4 dX9_rightMove_49 rfl (by decide) ?_
  refine x_iload_n (q := 51) dX9_rightMove_50 rfl rfl ?_
  refine xn_imul (q := 52) dX9_rightMove_51 rfl ?_
  refine xn_iconst (q := 53) 2 dX9_rightMove_52 rfl (by decide) ?_
  refine xn_iadd (q := 54) dX9_rightMove_53 rfl ?_
  refine x_ldc2 (q := 57) (-192) dX9_rightMove_54 rfl cwX9_152 ?_
  refine x_topl (y := iL (-192)) (by decide) ?_
  refine x_lload_n (q := 58) dX9_rightMove_57 rfl rfl ?_
  refine xi_lmul (q := 59) dX9_rightMove_58 rfl rfl (lN_i' _) ?_
  refine x_lload_n (q := 60) dX9_rightMove_59 rfl rfl ?_
  refine xi_lmul (q := 61) dX9_rightMove_60 rfl rfl (lN_i' _) ?_
  refine m_call (q := 64) (As := [_, _]) hM imX9_term ivX9_term ilX9_term mwX9_149 xciX9 dX9_rightMove_61 rfl rfl rfl (Nat.le_of_ble_eq_true rfl) ?_
  refine (c_term G l o as M0 N S (d + 1) σ11 r (4 * b + 2) _ _ (-192 * c.L b * c.L b) (by first | rfl | (simp only [lN_i', ← Int64.ofInt_mul, Int.natCast_mul]; rfl)) (by rw [o11.1]; exact hr) (by omega) t11).mono (fun x σ12 hp => ?_)
  obtain ⟨rfl, q12, t12⟩ := hp
  intro M hM
  have o12 : onlyT σ σ12 := o11.trans q12
  show xX G l _ (d + 2) _ _ _ [] M N S
  have hL12 : σ12.2.1 4 b = nI (c.L b) := by rw [o12.2.1]; exact hLb
  have hE12 : σ12.2.1 5 b = nI (c.E b) := by rw [o12.2.1]; exact hEb
  refine x_aload_n (q := 65) dX9_rightMove_64 rfl rfl ?_
  refine xn_iconst (q := 66) 4 dX9_rightMove_65 rfl (by decide) ?_
  refine x_iload_n (q := 67) dX9_rightMove_66 rfl rfl ?_
  refine xn_imul (q := 68) dX9_rightMove_67 rfl ?_
  refine xn_iconst (q := 69) 3 dX9_rightMove_68 rfl (by decide) ?_
  refine xn_iadd (q := 70) dX9_rightMove_69 rfl ?_
  refine x_ldc2 (q := 73) (-64) dX9_rightMove_70 rfl cwX9_154 ?_
  refine x_topl (y := iL (-64)) (by decide) ?_
  refine x_lload_n (q := 74) dX9_rightMove_73 rfl rfl ?_
  refine xi_lmul (q := 75) dX9_rightMove_74 rfl rfl (lN_i' _) ?_
  refine x_lload_n (q := 76) dX9_rightMove_75 rfl rfl ?_
  refine xi_lmul (q := 77) dX9_rightMove_76 rfl rfl (lN_i' _) ?_
  refine x_lload_n (q := 78) dX9_rightMove_77 rfl rfl ?_
  refine xi_lmul (q := 79) dX9_rightMove_78 rfl rfl (lN_i' _) ?_
  refine m_call (q := 82) (As := [_, _]) hM imX9_term ivX9_term ilX9_term mwX9_149 xciX9 dX9_rightMove_79 rfl rfl rfl (Nat.le_of_ble_eq_true rfl) ?_
  refine (c_term G l o as M0 N S (d + 1) σ12 r (4 * b + 3) _ _ (-64 * c.L b * c.L b * c.L b) (by first | rfl | (simp only [lN_i', ← Int64.ofInt_mul, Int.natCast_mul]; rfl)) (by rw [o12.1]; exact hr) (by omega) t12).mono (fun x σ13 hp => ?_)
  obtain ⟨rfl, q13, t13⟩ := hp
  intro M hM
  have o13 : onlyT σ σ13 := o12.trans q13
  show xX G l _ (d + 2) _ _ _ [] M N S
  have hL13 : σ13.2.1 4 b = nI (c.L b) := by rw [o13.2.1]; exact hLb
  have hE13 : σ13.2.1 5 b = nI (c.E b) := by rw [o13.2.1]; exact hEb
  refine x_aload_n (q := 83) dX9_rightMove_82 rfl rfl ?_
  refine x_iload_n (q := 84) dX9_rightMove_83 rfl rfl ?_
  refine xn_iconst (q := 85) 3 dX9_rightMove_84 rfl (by decide) ?_
  refine xn_lconst (q := 86) 1 dX9_rightMove_85 rfl (by decide) ?_
  refine m_call (q := 89) (As := [_, _, _]) hM imX9_loads ivX9_loads ilX9_loads mwX9_156 xciX9 dX9_rightMove_86 rfl rfl rfl (Nat.le_of_ble_eq_true rfl) ?_
  refine (c_loads G l o as M0 N S d σ13 c r b 3 _ _ (1) (by first | rfl | (simp only [lN_i', ← Int64.ofInt_neg]; rfl)) (o13.cf hc) (by rw [o13.1]; exact hr) hr2 hb (by decide) t13).mono (fun x σ9 hp => ?_)
  obtain ⟨rfl, q9, t9⟩ := hp
  intro M hM
  show xX G l _ (d + 2) _ _ _ [] M N S
  exact x_vret rfl dX9_rightMove_89 (m_ret hM ⟨rfl, o13.trans q9, t9⟩)
set_option maxRecDepth 100000 in
set_option maxHeartbeats 4000000 in
theorem c_rightTurn (G : xG) (l : Launch) (o : Nat) (as : Nat → Nat) (M0 : xM) (N S : Nat) (d : Nat) (σ : mS) (c : mCf) (r b : Nat) (T : Nat → Int) (hc : Cf σ c) (hr : σ.1 21 = nI r) (hr2 : r < 12) (hb : b < c.m) (hT : Td σ T) : mC G l o as M0 N S YX9_rightTurn (d + 2) [.int (nI b)] σ (fun x σ' => x = none ∧ onlyT σ σ' ∧ Td σ' (rTurnP c r T b)) := by
  skip
  obtain ⟨ok, hm, hL, hE, hH, hHi, hTu, hSe⟩ := id hc
  obtain ⟨m1, m3, okL, okE, okS⟩ := ok
  have hLb := hL b (by omega)
  have okb := okL b (by omega)
  have hEb := hE b (by omega)
  have oke := okE b (by omega)
  have hcol : 4 * b + 4 ≤ 12 := by omega
  refine mC.of (ls := [(0, .ref o), (1, .int (nI b))]) (by decide) (Nat.le_of_ble_eq_true rfl) rfl fun M hM => ?_
  refine x_aload_n (q := 1) dX9_rightTurn_0 rfl rfl ?_
  refine m_get (q := 4) hM 4 fwX9_13 (by decide) dX9_rightTurn_1 rfl rfl ?_
  refine x_iload_n (q := 5) dX9_rightTurn_4 rfl rfl ?_
  refine m_iald (q := 6) hM (n := 3) (by decide) dX9_rightTurn_5 rfl (by omega) ?_
  rw [hLb]
  refine xn_i2l (q := 7) dX9_rightTurn_6 rfl (by omega) ?_
  refine x_lstore_n (q := 8) (ls' := [(0, _), (1, _), (2, _)]) [1, 2, 0] dX9_rightTurn_7 rfl (by decide) rfl ?_
  refine x_aload_n (q := 9) dX9_rightTurn_8 rfl rfl ?_
  refine xn_iconst (q := 10) 4 dX9_rightTurn_9 rfl (by decide) ?_
  refine x_iload_n (q := 11) dX9_rightTurn_10 rfl rfl ?_
  refine xn_imul (q := 12) dX9_rightTurn_11 rfl ?_
  refine xn_iconst (q := 13) 1 dX9_rightTurn_12 rfl (by decide) ?_
  refine xn_iadd (q := 14) dX9_rightTurn_13 rfl ?_
  refine xn_ldc2 (q := 17) 32 dX9_rightTurn_14 rfl cwX9_160 ?_
  refine x_aload_n (q := 18) dX9_rightTurn_17 rfl rfl ?_
  refine m_get (q := 21) hM 5 fwX9_16 (by decide) dX9_rightTurn_18 rfl rfl ?_
  refine x_iload_n (q := 22) dX9_rightTurn_21 rfl rfl ?_
  refine m_iald (q := 23) hM (n := 3) (by decide) dX9_rightTurn_22 rfl (by omega) ?_
  rw [hEb]
  refine xn_i2l (q := 24) dX9_rightTurn_23 rfl (by omega) ?_
  refine xn_lmul (q := 25) dX9_rightTurn_24 rfl ?_
  refine m_call (q := 28) (As := [_, _]) hM imX9_term ivX9_term ilX9_term mwX9_149 xciX9 dX9_rightTurn_25 rfl rfl rfl (Nat.le_of_ble_eq_true rfl) ?_
  refine (c_term G l o as M0 N S (d + 1) σ r (4 * b + 1) _ _ (32 * c.E b) (by first | rfl | (simp only [lN_i', ← Int64.ofInt_mul, Int.natCast_mul]; rfl)) hr (by omega) hT).mono (fun x σ10 hp => ?_)
  obtain ⟨rfl, q10, t10⟩ := hp
  intro M hM
  have o10 : onlyT σ σ10 := q10
  show xX G l _ (d + 2) _ _ _ [] M N S
  have hL10 : σ10.2.1 4 b = nI (c.L b) := by rw [o10.2.1]; exact hLb
  have hE10 : σ10.2.1 5 b = nI (c.E b) := by rw [o10.2.1]; exact hEb
  refine x_aload_n (q := 29) dX9_rightTurn_28 rfl rfl ?_
  refine xn_iconst (q := 30) 4 dX9_rightTurn_29 rfl (by decide) ?_
  refine x_iload_n (q := 31) dX9_rightTurn_30 rfl rfl ?_
  refine xn_imul (q := 32) dX9_rightTurn_31 rfl ?_
  refine xn_iconst (q := 33) 2 dX9_rightTurn_32 rfl (by decide) ?_
  refine xn_iadd (q := 34) dX9_rightTurn_33 rfl ?_
  refine x_ldc2 (q := 37) (-32) dX9_rightTurn_34 rfl cwX9_162 ?_
  refine x_topl (y := iL (-32)) (by decide) ?_
  refine x_lload_n (q := 38) dX9_rightTurn_37 rfl rfl ?_
  refine xi_lmul (q := 39) dX9_rightTurn_38 rfl rfl (lN_i' _) ?_
  refine m_call (q := 42) (As := [_, _]) hM imX9_term ivX9_term ilX9_term mwX9_149 xciX9 dX9_rightTurn_39 rfl rfl rfl (Nat.le_of_ble_eq_true rfl) ?_
  refine (c_term G l o as M0 N S (d + 1) σ10 r (4 * b + 2) _ _ (-32 * c.L b) (by first | rfl | (simp only [lN_i', ← Int64.ofInt_mul, Int.natCast_mul]; rfl)) (by rw [o10.1]; exact hr) (by omega) t10).mono (fun x σ11 hp => ?_)
  obtain ⟨rfl, q11, t11⟩ := hp
  intro M hM
  have o11 : onlyT σ σ11 := o10.trans q11
  show xX G l _ (d + 2) _ _ _ [] M N S
  have hL11 : σ11.2.1 4 b = nI (c.L b) := by rw [o11.2.1]; exact hLb
  have hE11 : σ11.2.1 5 b = nI (c.E b) := by rw [o11.2.1]; exact hEb
  refine x_aload_n (q := 43) dX9_rightTurn_42 rfl rfl ?_
  refine xn_iconst (q := 44) 4 dX9_rightTurn_43 rfl (by decide) ?_
  refine x_iload_n (q := 45) dX9_rightTurn_44 rfl rfl ?_
  refine xn_imul (q := 46) dX9_rightTurn_45 rfl ?_
  refine xn_iconst (q := 47) 3 dX9_rightTurn_46 rfl (by decide) ?_
  refine xn_iadd (q := 48) dX9_rightTurn_47 rfl ?_
  refine x_ldc2 (q := 51) (-16) dX9_rightTurn_48 rfl cwX9_164 ?_
  refine x_topl (y := iL (-16)) (by decide) ?_
  refine x_lload_n (q := 52) dX9_rightTurn_51 rfl rfl ?_
  refine xi_lmul (q := 53) dX9_rightTurn_52 rfl rfl (lN_i' _) ?_
  refine x_lload_n (q := 54) dX9_rightTurn_53 rfl rfl ?_
  refine xi_lmul (q := 55) dX9_rightTurn_54 rfl rfl (lN_i' _) ?_
  refine m_call (q := 58) (As := [_, _]) hM imX9_term ivX9_term ilX9_term mwX9_149 xciX9 dX9_rightTurn_55 rfl rfl rfl (Nat.le_of_ble_eq_true rfl) ?_
  refine (c_term G l o as M0 N S (d + 1) σ11 r (4 * b + 3) _ _ (-16 * c.L b * c.L b) (by first | rfl | (simp only [lN_i', ← Int64.ofInt_mul, Int.natCast_mul]; rfl)) (by rw [o11.1]; exact hr) (by omega) t11).mono (fun x σ12 hp => ?_)
  obtain ⟨rfl, q12, t12⟩ := hp
  intro M hM
  have o12 : onlyT σ σ12 := o11.trans q12
  show xX G l _ (d + 2) _ _ _ [] M N S
  have hL12 : σ12.2.1 4 b = nI (c.L b) := by rw [o12.2.1]; exact hLb
  have hE12 : σ12.2.1 5 b = nI (c.E b) := by rw [o12.2.1]; exact hEb
  refine x_aload_n (q := 59) dX9_rightTurn_58 rfl rfl ?_
  refine x_iload_n (q := 60) dX9_rightTurn_59 rfl rfl ?_
  refine xn_iconst (q := 61) 2 dX9_rightTurn_60 rfl (by decide) ?_
  refine xn_lconst (q := 62) 1 dX9_rightTurn_61 rfl (by decide) ?_
  refine m_call (q := 65) (As := [_, _, _]) hM imX9_loads ivX9_loads ilX9_loads mwX9_156 xciX9 dX9_rightTurn_62 rfl rfl rfl (Nat.le_of_ble_eq_true rfl) ?_
  refine (c_loads G l o as M0 N S d σ12 c r b 2 _ _ (1) (by first | rfl | (simp only [lN_i', ← Int64.ofInt_neg]; rfl)) (o12.cf hc) (by rw [o12.1]; exact hr) hr2 hb (by decide) t12).mono (fun x σ9 hp => ?_)
  obtain ⟨rfl, q9, t9⟩ := hp
  intro M hM
  show xX G l _ (d + 2) _ _ _ [] M N S
  exact x_vret rfl dX9_rightTurn_65 (m_ret hM ⟨rfl, o12.trans q9, t9⟩)
set_option maxRecDepth 100000 in
set_option maxHeartbeats 4000000 in
theorem c_rightMoment (G : xG) (l : Launch) (o : Nat) (as : Nat → Nat) (M0 : xM) (N S : Nat) (d : Nat) (σ : mS) (c : mCf) (r b : Nat) (T : Nat → Int) (v : Int64) (w : Int) (hv : v = iL w) (hc : Cf σ c) (hr : σ.1 21 = nI r) (hr2 : r < 12) (hb : b < c.m) (hT : Td σ T) : mC G l o as M0 N S YX9_rightMoment (d + 2) [.int (nI b), .long v] σ (fun x σ' => x = none ∧ onlyT σ σ' ∧ Td σ' (rMomP c r T b w)) := by
  subst hv
  obtain ⟨ok, hm, hL, hE, hH, hHi, hTu, hSe⟩ := id hc
  obtain ⟨m1, m3, okL, okE, okS⟩ := ok
  have hLb := hL b (by omega)
  have okb := okL b (by omega)
  have hEb := hE b (by omega)
  have oke := okE b (by omega)
  have hcol : 4 * b + 4 ≤ 12 := by omega
  refine mC.of (ls := [(0, .ref o), (1, .int (nI b)), (2, .long (iL w))]) (by decide) (Nat.le_of_ble_eq_true rfl) rfl fun M hM => ?_
  refine x_aload_n (q := 1) dX9_rightMoment_0 rfl rfl ?_
  refine xn_iconst (q := 2) 4 dX9_rightMoment_1 rfl (by decide) ?_
  refine x_iload_n (q := 3) dX9_rightMoment_2 rfl rfl ?_
  refine xn_imul (q := 4) dX9_rightMoment_3 rfl ?_
  refine xn_iconst (q := 5) 2 dX9_rightMoment_4 rfl (by decide) ?_
  refine xn_iadd (q := 6) dX9_rightMoment_5 rfl ?_
  refine xn_ldc2 (q := 9) 4 dX9_rightMoment_6 rfl cwX9_142 ?_
  refine x_lload_n (q := 10) dX9_rightMoment_9 rfl rfl ?_
  refine xi_lmul (q := 11) dX9_rightMoment_10 rfl (lN_i' _) rfl ?_
  refine m_call (q := 14) (As := [_, _]) hM imX9_term ivX9_term ilX9_term mwX9_149 xciX9 dX9_rightMoment_11 rfl rfl rfl (Nat.le_of_ble_eq_true rfl) ?_
  refine (c_term G l o as M0 N S (d + 1) σ r (4 * b + 2) _ _ (4 * w) (by first | rfl | (simp only [lN_i', ← Int64.ofInt_mul, Int.natCast_mul]; rfl)) hr (by omega) hT).mono (fun x σ10 hp => ?_)
  obtain ⟨rfl, q10, t10⟩ := hp
  intro M hM
  have o10 : onlyT σ σ10 := q10
  show xX G l _ (d + 2) _ _ _ [] M N S
  have hL10 : σ10.2.1 4 b = nI (c.L b) := by rw [o10.2.1]; exact hLb
  have hE10 : σ10.2.1 5 b = nI (c.E b) := by rw [o10.2.1]; exact hEb
  refine x_aload_n (q := 15) dX9_rightMoment_14 rfl rfl ?_
  refine xn_iconst (q := 16) 4 dX9_rightMoment_15 rfl (by decide) ?_
  refine x_iload_n (q := 17) dX9_rightMoment_16 rfl rfl ?_
  refine xn_imul (q := 18) dX9_rightMoment_17 rfl ?_
  refine xn_iconst (q := 19) 3 dX9_rightMoment_18 rfl (by decide) ?_
  refine xn_iadd (q := 20) dX9_rightMoment_19 rfl ?_
  refine xn_ldc2 (q := 23) 4 dX9_rightMoment_20 rfl cwX9_142 ?_
  refine x_lload_n (q := 24) dX9_rightMoment_23 rfl rfl ?_
  refine xi_lmul (q := 25) dX9_rightMoment_24 rfl (lN_i' _) rfl ?_
  refine x_aload_n (q := 26) dX9_rightMoment_25 rfl rfl ?_
  refine m_get (q := 29) hM 4 fwX9_13 (by decide) dX9_rightMoment_26 rfl rfl ?_
  refine x_iload_n (q := 30) dX9_rightMoment_29 rfl rfl ?_
  refine m_iald (q := 31) hM (n := 3) (by decide) dX9_rightMoment_30 rfl (by omega) ?_
  rw [hL10]
  refine xn_i2l (q := 32) dX9_rightMoment_31 rfl (by omega) ?_
  refine xi_lmul (q := 33) dX9_rightMoment_32 rfl rfl (lN_i' _) ?_
  refine m_call (q := 36) (As := [_, _]) hM imX9_term ivX9_term ilX9_term mwX9_149 xciX9 dX9_rightMoment_33 rfl rfl rfl (Nat.le_of_ble_eq_true rfl) ?_
  refine (c_term G l o as M0 N S (d + 1) σ10 r (4 * b + 3) _ _ (4 * w * c.L b) (by first | rfl | (simp only [lN_i', ← Int64.ofInt_mul, Int.natCast_mul]; rfl)) (by rw [o10.1]; exact hr) (by omega) t10).mono (fun x σ11 hp => ?_)
  obtain ⟨rfl, q11, t11⟩ := hp
  intro M hM
  have o11 : onlyT σ σ11 := o10.trans q11
  show xX G l _ (d + 2) _ _ _ [] M N S
  have hL11 : σ11.2.1 4 b = nI (c.L b) := by rw [o11.2.1]; exact hLb
  have hE11 : σ11.2.1 5 b = nI (c.E b) := by rw [o11.2.1]; exact hEb
  refine x_aload_n (q := 37) dX9_rightMoment_36 rfl rfl ?_
  refine x_iload_n (q := 38) dX9_rightMoment_37 rfl rfl ?_
  refine xn_iconst (q := 39) 1 dX9_rightMoment_38 rfl (by decide) ?_
  refine x_lload_n (q := 40) dX9_rightMoment_39 rfl rfl ?_
  refine xi_lneg (q := 41) dX9_rightMoment_40 rfl rfl ?_
  refine m_call (q := 44) (As := [_, _, _]) hM imX9_loads ivX9_loads ilX9_loads mwX9_156 xciX9 dX9_rightMoment_41 rfl rfl rfl (Nat.le_of_ble_eq_true rfl) ?_
  refine (c_loads G l o as M0 N S d σ11 c r b 1 _ _ (-w) (by first | rfl | (simp only [lN_i', ← Int64.ofInt_neg]; rfl)) (o11.cf hc) (by rw [o11.1]; exact hr) hr2 hb (by decide) t11).mono (fun x σ9 hp => ?_)
  obtain ⟨rfl, q9, t9⟩ := hp
  intro M hM
  show xX G l _ (d + 2) _ _ _ [] M N S
  exact x_vret rfl dX9_rightMoment_44 (m_ret hM ⟨rfl, o11.trans q9, t9⟩)
end XF
