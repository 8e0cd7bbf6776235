section XR7
def solA (c : mCf) : Nat → Nat → Int := (gjS (stA c) (4 * c.m) (9 * c.m) (4 * c.m)).1
def solD (c : mCf) : Int := (gjS (stA c) (4 * c.m) (9 * c.m) (4 * c.m)).2
theorem gjS_last (A : Nat → Nat → Int) (n w : Nat) : (gjS A n w (n + 1)).1 n n = (gjS A n w (n + 1)).2 := if_neg (by omega)
theorem gjS_last' {A : Nat → Nat → Int} {n w : Nat} (h : 1 ≤ n) : (gjS A n w n).1 (n - 1) (n - 1) = (gjS A n w n).2 := by
  obtain ⟨k, rfl⟩ : ∃ k, n = k + 1 := ⟨n - 1, by omega⟩
  show lesT _ k _ _ _ k k = _
  exact if_neg (by omega)
/-- beams, and their solution -/
def Sv (σ : mS) (c : mCf) : Prop := Cf σ c ∧ Mat σ (solA c) ∧ Reg σ 10 (solD c)
theorem Sv.w {σ : mS} {c : mCf} (h : Sv σ c) {i j : Nat} (hi : i < 12) (hj : j < 28) : (solA c i j).natAbs < B9 ^ 24 := (h.2.1 i j hi hj).w
theorem Sv.wD {σ : mS} {c : mCf} (h : Sv σ c) : (solD c).natAbs < B9 ^ 24 := by
  have h1 := h.1.1.1
  have h3 := h.1.1.2.1
  have := h.w (i := 4 * c.m - 1) (j := 4 * c.m - 1) (by omega) (by omega)
  unfold solA at this
  rw [gjS_last' (by omega)] at this
  exact this
theorem Sv.keeps {rs : List Nat} {σ σ' : mS} {c : mCf} (h : Sv σ c) (hk : keeps rs σ σ') (h10 : 10 ∉ rs) : Sv σ' c := ⟨h.1.on hk.onl (by decide) (by decide) (by decide) (by decide) (by decide) (by decide) (by decide), hk.mat h.2.1, hk.reg h10 h.2.2⟩
theorem RS.sv {σ : mS} {z : mT} (h : RS σ z) (hl : looseB z.1 = false) : Sv σ z.1 := ⟨h.1, (h.2.2.1.2 hl).1, (h.2.2.1.2 hl).2⟩
def BW : Nat := B9 ^ 26
theorem BW_def : BW = B9 ^ 26 := rfl
theorem BW_mul {v b : Int} (hv : v.natAbs < B9 ^ 24) (hb : b.natAbs < 4000000000) : (v * b).natAbs ≤ BW := by
  rw [Int.natAbs_mul, BW_def, show (26 : Nat) = 24 + 2 from rfl, Nat.pow_add]
  exact Nat.mul_le_mul (Nat.le_of_lt hv) (Nat.le_of_lt (Nat.lt_trans hb (by decide)))
theorem BW_le {u : Nat} {j : Nat} (hj : j ≤ 9) (h : u ≤ j * BW) : u < B9 ^ 27 := by
  have h1 : j * BW ≤ 9 * BW := Nat.mul_le_mul_right _ hj
  have h2 : 9 * BW < B9 ^ 27 := by
    have e : B9 ^ 27 = B9 * B9 ^ 26 := by rw [Nat.pow_succ, Nat.mul_comm]
    rw [BW_def, e]
    exact Nat.mul_lt_mul_of_pos_right (by decide) (Nat.pow_pos (by decide))
  omega
theorem BW_add {u w : Int} {j : Nat} (hu : u.natAbs ≤ j * BW) (hw : w.natAbs ≤ BW) : (u + w).natAbs ≤ (j + 1) * BW := by
  rw [Nat.succ_mul]
  have := Int.natAbs_add_le u w
  omega
theorem B9_27_399 {u : Nat} (h : u < B9 ^ 27) {k : Nat} (hk : 27 ≤ k) : u < B9 ^ k := Nat.lt_of_lt_of_le h (B9_mono hk)
set_option maxRecDepth 100000 in
set_option maxHeartbeats 4000000 in
theorem c_more (G : xG) (l : Launch) (o : Nat) (as : Nat → Nat) (M0 : xM) (N S : Nat) (d : Nat) (σ : mS) (k col : Nat) (hk : k < 12) (hc : col < 28) (v u b : Int) (by0 : Int64) (hb : by0.toInt = b) (hb4 : b.natAbs < 4000000000) (j : Nat) (hj : j ≤ 8) (hv : Cel σ (28 * k + col) v) (hu : Reg σ 0 u) (huj : u.natAbs ≤ j * BW) : mC G l o as M0 N S YX9_more (d + 3) [.int (nI k), .int (nI col), .long by0] σ (fun x σ' => x = none ∧ keeps [0, 2, 3] σ σ' ∧ Reg σ' 0 (u + v * b) ∧ (u + v * b).natAbs ≤ (j + 1) * BW) := by
  have hbw := BW_mul hv.w hb4
  refine mC.of (ls := [(0, .ref o), (1, .int (nI k)), (2, .int (nI col)), (3, .long by0)]) (by decide) (Nat.le_of_ble_eq_true rfl) rfl fun M hM => ?_
  refine x_aload_n (q := 1) dX9_more_0 rfl rfl ?_
  refine xn_bipush (q := 3) 28 dX9_more_1 rfl (by decide) ?_
  refine x_iload_n (q := 4) dX9_more_3 rfl rfl ?_
  refine xn_imul (q := 5) dX9_more_4 rfl ?_
  refine x_iload_n (q := 6) dX9_more_5 rfl rfl ?_
  refine xn_iadd (q := 7) dX9_more_6 rfl ?_
  refine xn_iconst (q := 8) 2 dX9_more_7 rfl (by decide) ?_
  refine m_call (q := 11) (As := [_, _]) hM imX9_load ivX9_load ilX9_load mwX9_195 xciX9 dX9_more_8 rfl rfl rfl (Nat.le_of_ble_eq_true rfl) ?_
  refine (c_load G l o as M0 N S (d + 2) (28 * k + col) 2 (by omega) (by decide) σ v hv).mono (fun x9 σ1 hp => ?_)
  obtain ⟨rfl, k1, r1⟩ := hp
  intro M hM
  show xX G l _ (d + 3) _ _ _ _ M N S
  refine x_aload_n (q := 12) dX9_more_11 rfl rfl ?_
  refine xn_iconst (q := 13) 2 dX9_more_12 rfl (by decide) ?_
  refine x_lload_n (q := 14) dX9_more_13 rfl rfl ?_
  refine m_call (q := 17) (As := [_, _]) hM imX9_multiplySmall ivX9_multiplySmall ilX9_multiplySmall mwX9_129 xciX9 dX9_more_14 rfl rfl rfl (Nat.le_of_ble_eq_true rfl) ?_
  refine (c_multiplySmall G l o as M0 N S (d + 1) 2 (by decide) by0 b hb hb4 σ1 v r1 (Nat.lt_of_lt_of_le hv.w (B9_mono (by decide)))).mono (fun x9 σ2 hp => ?_)
  obtain ⟨rfl, k2, r2⟩ := hp
  intro M hM
  show xX G l _ (d + 3) _ _ _ _ M N S
  refine x_aload_n (q := 18) dX9_more_17 rfl rfl ?_
  refine xn_iconst (q := 19) 0 dX9_more_18 rfl (by decide) ?_
  refine xn_iconst (q := 20) 2 dX9_more_19 rfl (by decide) ?_
  refine xn_iconst (q := 21) 1 dX9_more_20 rfl (by decide) ?_
  refine xn_iconst (q := 22) 3 dX9_more_21 rfl (by decide) ?_
  refine m_call (q := 25) (As := [_, _, _, _]) hM imX9_add ivX9_add ilX9_add mwX9_201 xciX9 dX9_more_22 rfl rfl rfl (Nat.le_of_ble_eq_true rfl) ?_
  have r0 : Reg σ2 0 u := k2.reg (by decide) (k1.reg (by decide) hu)
  refine (c_add G l o as M0 N S d 0 2 3 (by decide) (by decide) (by decide) (by decide) (by decide) σ2 u (v * b) 1 _ r0 r2 (.inl rfl) rfl (B9_27_399 (BW_le (by omega) huj) (by decide)) (B9_27_399 (BW_le (j := 1) (by decide) (by rw [Nat.one_mul]; exact hbw)) (by decide))).mono (fun x9 σ3 hp => ?_)
  obtain ⟨rfl, k3, r3⟩ := hp
  intro M hM
  show xX G l _ (d + 3) _ _ _ _ M N S
  refine x_aload_n (q := 26) dX9_more_25 rfl rfl ?_
  refine xn_iconst (q := 27) 3 dX9_more_26 rfl (by decide) ?_
  refine xn_iconst (q := 28) 0 dX9_more_27 rfl (by decide) ?_
  refine m_call (q := 31) (As := [_, _]) hM imX9_copy ivX9_copy ilX9_copy mwX9_107 xciX9 dX9_more_28 rfl rfl rfl (Nat.le_of_ble_eq_true rfl) ?_
  refine (c_copy G l o as M0 N S (d + 2) 3 0 (by decide) (by decide) (by decide) σ3 _ r3).mono (fun x9 σ4 hp => ?_)
  obtain ⟨rfl, k4, r4⟩ := hp
  intro M hM
  show xX G l _ (d + 3) _ _ _ _ M N S
  rw [Int.one_mul] at r4
  exact x_vret rfl dX9_more_31 (m_ret hM ⟨rfl, (k1.s (by simp)).trans ((k2.s (by simp)).trans ((k3.s (by simp)).trans (k4.s (by simp)))), r4, BW_add huj hbw⟩)
set_option maxRecDepth 100000 in
set_option maxHeartbeats 4000000 in
theorem c_whole (G : xG) (l : Launch) (o : Nat) (as : Nat → Nat) (M0 : xM) (N S : Nat) (d : Nat) (σ : mS) (v u b : Int) (by0 : Int64) (hb : by0.toInt = b) (hb4 : b.natAbs < 4000000000) (j : Nat) (hj : j ≤ 8) (hv : Reg σ 10 v) (hvw : v.natAbs < B9 ^ 24) (hu : Reg σ 0 u) (huj : u.natAbs ≤ j * BW) : mC G l o as M0 N S YX9_whole (d + 3) [.long by0] σ (fun x σ' => x = none ∧ keeps [0, 2, 3] σ σ' ∧ Reg σ' 0 (u + v * b) ∧ (u + v * b).natAbs ≤ (j + 1) * BW) := by
  have hbw := BW_mul hvw hb4
  refine mC.of (ls := [(0, .ref o), (1, .long by0)]) (by decide) (Nat.le_of_ble_eq_true rfl) rfl fun M hM => ?_
  refine x_aload_n (q := 1) dX9_whole_0 rfl rfl ?_
  refine xn_bipush (q := 3) 10 dX9_whole_1 rfl (by decide) ?_
  refine xn_iconst (q := 4) 2 dX9_whole_3 rfl (by decide) ?_
  refine m_call (q := 7) (As := [_, _]) hM imX9_copy ivX9_copy ilX9_copy mwX9_107 xciX9 dX9_whole_4 rfl rfl rfl (Nat.le_of_ble_eq_true rfl) ?_
  refine (c_copy G l o as M0 N S (d + 2) 10 2 (by decide) (by decide) (by decide) σ v hv).mono (fun x9 σ1 hp => ?_)
  obtain ⟨rfl, k1, r1⟩ := hp
  intro M hM
  show xX G l _ (d + 3) _ _ _ _ M N S
  refine x_aload_n (q := 8) dX9_whole_7 rfl rfl ?_
  refine xn_iconst (q := 9) 2 dX9_whole_8 rfl (by decide) ?_
  refine x_lload_n (q := 10) dX9_whole_9 rfl rfl ?_
  refine m_call (q := 13) (As := [_, _]) hM imX9_multiplySmall ivX9_multiplySmall ilX9_multiplySmall mwX9_129 xciX9 dX9_whole_10 rfl rfl rfl (Nat.le_of_ble_eq_true rfl) ?_
  refine (c_multiplySmall G l o as M0 N S (d + 1) 2 (by decide) by0 b hb hb4 σ1 v r1 (Nat.lt_of_lt_of_le hvw (B9_mono (by decide)))).mono (fun x9 σ2 hp => ?_)
  obtain ⟨rfl, k2, r2⟩ := hp
  intro M hM
  show xX G l _ (d + 3) _ _ _ _ M N S
  refine x_aload_n (q := 14) dX9_whole_13 rfl rfl ?_
  refine xn_iconst (q := 15) 0 dX9_whole_14 rfl (by decide) ?_
  refine xn_iconst (q := 16) 2 dX9_whole_15 rfl (by decide) ?_
  refine xn_iconst (q := 17) 1 dX9_whole_16 rfl (by decide) ?_
  refine xn_iconst (q := 18) 3 dX9_whole_17 rfl (by decide) ?_
  refine m_call (q := 21) (As := [_, _, _, _]) hM imX9_add ivX9_add ilX9_add mwX9_201 xciX9 dX9_whole_18 rfl rfl rfl (Nat.le_of_ble_eq_true rfl) ?_
  have r0 : Reg σ2 0 u := k2.reg (by decide) (k1.reg (by decide) hu)
  refine (c_add G l o as M0 N S d 0 2 3 (by decide) (by decide) (by decide) (by decide) (by decide) σ2 u (v * b) 1 _ r0 r2 (.inl rfl) rfl (B9_27_399 (BW_le (by omega) huj) (by decide)) (B9_27_399 (BW_le (j := 1) (by decide) (by rw [Nat.one_mul]; exact hbw)) (by decide))).mono (fun x9 σ3 hp => ?_)
  obtain ⟨rfl, k3, r3⟩ := hp
  intro M hM
  show xX G l _ (d + 3) _ _ _ _ M N S
  refine x_aload_n (q := 22) dX9_whole_21 rfl rfl ?_
  refine xn_iconst (q := 23) 3 dX9_whole_22 rfl (by decide) ?_
  refine xn_iconst (q := 24) 0 dX9_whole_23 rfl (by decide) ?_
  refine m_call (q := 27) (As := [_, _]) hM imX9_copy ivX9_copy ilX9_copy mwX9_107 xciX9 dX9_whole_24 rfl rfl rfl (Nat.le_of_ble_eq_true rfl) ?_
  refine (c_copy G l o as M0 N S (d + 2) 3 0 (by decide) (by decide) (by decide) σ3 _ r3).mono (fun x9 σ4 hp => ?_)
  obtain ⟨rfl, k4, r4⟩ := hp
  intro M hM
  show xX G l _ (d + 3) _ _ _ _ M N S
  rw [Int.one_mul] at r4
  exact x_vret rfl dX9_whole_27 (m_ret hM ⟨rfl, (k1.s (by simp)).trans ((k2.s (by simp)).trans ((k3.s (by simp)).trans (k4.s (by simp)))), r4, BW_add huj hbw⟩)
/-- the load stands before the node's place, or right at the node -/
def loadB (m lm lp : Nat) : Bool := decide ((0 < lp ∧ lp < 4 ∧ lm + 1 = m) ∨ (lp = 0 ∧ lm = m) ∨ (lp = 4 ∧ lm + 1 = m))
/-- how far the place lies behind the load -/
def behN (c : mCf) (m p lm lp : Nat) : Nat := if 0 < lp ∧ lp < 4 ∧ lm = m ∧ lp < p then c.L m * (p - lp) else 0
def val3 (c : mCf) (m lm lp col : Nat) : Int := ((0 + if m < c.m then solA c (4 * m + 3) col * 1 else 0) + if 0 < m then solA c (4 * m - 1) col * -1 else 0) + solD c * if loadB m lm lp = true then 1 else 0
def val0 (c : mCf) (m p lm lp col : Nat) : Int := 0 + solA c (4 * m + 2) col * 4 + solA c (4 * m + 3) col * ((c.L m * p : Nat) : Int) + solD c * -(behN c m p lm lp : Int)
def val1 (c : mCf) (m p lm lp col : Nat) : Int := 0 + solA c (4 * m + 3) col * 1 + solD c * if 0 < behN c m p lm lp then -1 else 0
def val2 (c : mCf) (m p lm lp col : Nat) : Int := 0 + solA c (4 * m) col * ((384 * c.E m : Nat) : Int) + solA c (4 * m + 1) col * ((96 * c.E m * (c.L m * p) : Nat) : Int) + solA c (4 * m + 2) col * -((12 * (c.L m * p) * (c.L m * p) : Nat) : Int) + solA c (4 * m + 3) col * -((c.L m * p * (c.L m * p) * (c.L m * p) : Nat) : Int) + solD c * ((behN c m p lm lp * behN c m p lm lp * behN c m p lm lp : Nat) : Int)
def valP (c : mCf) (w m p lm lp col : Nat) : Int := if w = 3 then val3 c m lm lp col else if w = 0 then val0 c m p lm lp col else if w = 1 then val1 c m p lm lp col else val2 c m p lm lp col
theorem lN_t {a : Nat} (h : a < 9223372036854775808) : (lN a).toInt = (a : Int) := by rw [lN_i']; exact iL_t (by omega) (by omega)
set_option maxRecDepth 100000 in
set_option maxHeartbeats 4000000 in
theorem c_val_3 (G : xG) (l : Launch) (o : Nat) (as : Nat → Nat) (M0 : xM) (N S : Nat) (d : Nat) (σ : mS) (c : mCf) (hs : Sv σ c) (m p lm lp col : Nat) (hp : p ≤ 4) (hlm : lm < c.m) (hlp : lp ≤ 4) (hcol : col < 28) (hm : m ≤ c.m) (wi : Bool) (hwi : wi = decide (0 < lp ∧ lp < 4)) (σ3 : mS) (k3 : keeps [0, 2, 3] σ σ3) (r3 : Reg σ3 0 0) (M : xM) (hM : mAt o as σ3 M0 M) : xX G l YX9_value (d + 4) (mQ o as M0 N S (fun x σ' => x = none ∧ keeps [0, 2, 3] σ σ' ∧ Reg σ' 0 (val3 c m lm lp col) ∧ (val3 c m lm lp col).natAbs ≤ 6 * BW)) 24 [(0, .ref o), (1, .int (nI 3)), (2, .int (nI m)), (3, .int (nI p)), (4, .int (nI lm)), (5, .int (nI lp)), (6, .int (nI col)), (7, .int (bI wi))] [] M N S := by
  have hm3 := hs.1.1.2.1
  have hD := hs.wD
  have s117 : ∀ (σ4 : mS) (M : xM) (u : Int) (be he : Bool), keeps [0, 2, 3] σ σ4 → Reg σ4 0 u → u.natAbs ≤ 2 * BW → u + solD c * (if loadB m lm lp = true then 1 else 0) = val3 c m lm lp col → (be || he) = loadB m lm lp → mAt o as σ4 M0 M → xX G l YX9_value (d + 4) (mQ o as M0 N S (fun x σ' => x = none ∧ keeps [0, 2, 3] σ σ' ∧ Reg σ' 0 (val3 c m lm lp col) ∧ (val3 c m lm lp col).natAbs ≤ 6 * BW)) 117 [(0, .ref o), (1, .int (nI 3)), (2, .int (nI m)), (3, .int (nI p)), (4, .int (nI lm)), (5, .int (nI lp)), (6, .int (nI col)), (7, .int (bI wi)), (8, .int (bI be))] [.int (bI he)] M N S := by
    intro σ4 M u be he k4 r4 hu hue hbe hM
    refine x_istore (q := 119) (ls' := [(0, _), (1, _), (2, _), (3, _), (4, _), (5, _), (6, _), (7, _), (8, _), (9, _)]) [1, 2, 3, 4, 5, 6, 7, 8, 9, 0] dX9_value_117 rfl (by decide) rfl ?_
    refine x_aload_n (q := 120) dX9_value_119 rfl rfl ?_
    refine x_iload (q := 122) dX9_value_120 rfl rfl ?_
    refine x_if_ne (q := 125) 130 dX9_value_122 (by decide) rfl (fun hc122 => ?_) (fun hc122 => ?_)
    · refine xn_lconst (q := 131) 1 dX9_value_130 rfl (by decide) ?_
      refine x_goto 135 dX9_value_131 (by decide) ?_
      refine m_call (q := 138) (As := [_]) hM imX9_whole ivX9_whole ilX9_whole mwX9_296 xciX9 dX9_value_135 rfl rfl rfl (Nat.le_of_ble_eq_true rfl) ?_
      rw [bI_ne.mp hc122] at hbe
      have hl : loadB m lm lp = true := hbe.symm
      rw [hl] at hue
      rw [if_pos rfl] at hue
      refine (c_whole G l o as M0 N S d σ4 (solD c) u 1 (lN 1) rfl (by decide) 2 (by decide) (k4.reg (by decide) hs.2.2) hD r4 hu).mono (fun x9 σ9 hp => ?_)
      obtain ⟨rfl, k9, r9, b9⟩ := hp
      intro M hM
      show xX G l _ (d + 4) _ _ _ _ M N S
      exact x_vret rfl dX9_value_138 (m_ret hM ⟨rfl, k4.trans k9, by rw [hue] at r9; exact r9, by rw [hue] at b9; exact Nat.le_trans b9 (Nat.mul_le_mul_right _ (by decide))⟩)
    · refine x_iload (q := 127) dX9_value_125 rfl rfl ?_
      refine x_if_eq (q := 130) 134 dX9_value_127 (by decide) rfl (fun hc127 => ?_) (fun hc127 => ?_)
      · refine xn_lconst (q := 135) 0 dX9_value_134 rfl (by decide) ?_
        refine m_call (q := 138) (As := [_]) hM imX9_whole ivX9_whole ilX9_whole mwX9_296 xciX9 dX9_value_135 rfl rfl rfl (Nat.le_of_ble_eq_true rfl) ?_
        rw [bI_eq.mp hc122, bI_eq.mp hc127] at hbe
        have hl : loadB m lm lp = false := hbe.symm
        rw [hl] at hue
        rw [if_neg (by decide)] at hue
        refine (c_whole G l o as M0 N S d σ4 (solD c) u 0 (lN 0) rfl (by decide) 2 (by decide) (k4.reg (by decide) hs.2.2) hD r4 hu).mono (fun x9 σ9 hp => ?_)
        obtain ⟨rfl, k9, r9, b9⟩ := hp
        intro M hM
        show xX G l _ (d + 4) _ _ _ _ M N S
        exact x_vret rfl dX9_value_138 (m_ret hM ⟨rfl, k4.trans k9, by rw [hue] at r9; exact r9, by rw [hue] at b9; exact Nat.le_trans b9 (Nat.mul_le_mul_right _ (by decide))⟩)
      · refine xn_lconst (q := 131) 1 dX9_value_130 rfl (by decide) ?_
        refine x_goto 135 dX9_value_131 (by decide) ?_
        refine m_call (q := 138) (As := [_]) hM imX9_whole ivX9_whole ilX9_whole mwX9_296 xciX9 dX9_value_135 rfl rfl rfl (Nat.le_of_ble_eq_true rfl) ?_
        rw [bI_eq.mp hc122, bI_ne.mp hc127] at hbe
        have hl : loadB m lm lp = true := hbe.symm
        rw [hl] at hue
        rw [if_pos rfl] at hue
        refine (c_whole G l o as M0 N S d σ4 (solD c) u 1 (lN 1) rfl (by decide) 2 (by decide) (k4.reg (by decide) hs.2.2) hD r4 hu).mono (fun x9 σ9 hp => ?_)
        obtain ⟨rfl, k9, r9, b9⟩ := hp
        intro M hM
        show xX G l _ (d + 4) _ _ _ _ M N S
        exact x_vret rfl dX9_value_138 (m_ret hM ⟨rfl, k4.trans k9, by rw [hue] at r9; exact r9, by rw [hue] at b9; exact Nat.le_trans b9 (Nat.mul_le_mul_right _ (by decide))⟩)
  have s85 : ∀ (σ4 : mS) (M : xM) (u : Int) (be : Bool), keeps [0, 2, 3] σ σ4 → Reg σ4 0 u → u.natAbs ≤ 2 * BW → u + solD c * (if loadB m lm lp = true then 1 else 0) = val3 c m lm lp col → be = decide (0 < lp ∧ lp < 4 ∧ lm + 1 = m) → mAt o as σ4 M0 M → xX G l YX9_value (d + 4) (mQ o as M0 N S (fun x σ' => x = none ∧ keeps [0, 2, 3] σ σ' ∧ Reg σ' 0 (val3 c m lm lp col) ∧ (val3 c m lm lp col).natAbs ≤ 6 * BW)) 85 [(0, .ref o), (1, .int (nI 3)), (2, .int (nI m)), (3, .int (nI p)), (4, .int (nI lm)), (5, .int (nI lp)), (6, .int (nI col)), (7, .int (bI wi))] [.int (bI be)] M N S := by
    intro σ4 M u be k4 r4 hu hue hbe hM
    refine x_istore (q := 87) (ls' := [(0, _), (1, _), (2, _), (3, _), (4, _), (5, _), (6, _), (7, _), (8, _)]) [1, 2, 3, 4, 5, 6, 7, 8, 0] dX9_value_85 rfl (by decide) rfl ?_
    refine x_iload (q := 89) dX9_value_87 rfl rfl ?_
    refine xn_if_ne (q := 92) 98 dX9_value_89 (by decide) rfl (by omega) (fun hc89 => ?_) (fun hc89 => ?_)
    · refine x_iload (q := 100) dX9_value_98 rfl rfl ?_
      refine xn_iconst (q := 101) 4 dX9_value_100 rfl (by decide) ?_
      refine xn_icmp_ne (q := 104) 116 dX9_value_101 (by decide) rfl (by omega) (by omega) (fun hc101 => ?_) (fun hc101 => ?_)
      · refine xn_iconst (q := 117) 0 dX9_value_116 rfl (by decide) ?_
        first | exact s117 σ4 M u be false k4 r4 hu hue (by rw [hbe, Bool.or_false]; unfold loadB; rw [decide_eq_decide]; omega) hM | exact s117 σ4 M u be true k4 r4 hu hue (by rw [Bool.or_true]; unfold loadB; rw [eq_comm, decide_eq_true_iff]; omega) hM
      · refine x_iload (q := 106) dX9_value_104 rfl rfl ?_
        refine x_iload_n (q := 107) dX9_value_106 rfl rfl ?_
        refine xn_iconst (q := 108) 1 dX9_value_107 rfl (by decide) ?_
        refine xi_isub (q := 109) dX9_value_108 rfl (nI_i _) (nI_i _) ?_
        refine xi_icmp_ne (q := 112) 116 dX9_value_109 (by decide) rfl (nI_i _) rfl (by omega) (by omega) (by omega) (by omega) (fun hc109 => ?_) (fun hc109 => ?_)
        · refine xn_iconst (q := 117) 0 dX9_value_116 rfl (by decide) ?_
          first | exact s117 σ4 M u be false k4 r4 hu hue (by rw [hbe, Bool.or_false]; unfold loadB; rw [decide_eq_decide]; omega) hM | exact s117 σ4 M u be true k4 r4 hu hue (by rw [Bool.or_true]; unfold loadB; rw [eq_comm, decide_eq_true_iff]; omega) hM
        · refine xn_iconst (q := 113) 1 dX9_value_112 rfl (by decide) ?_
          refine x_goto 117 dX9_value_113 (by decide) ?_
          first | exact s117 σ4 M u be false k4 r4 hu hue (by rw [hbe, Bool.or_false]; unfold loadB; rw [decide_eq_decide]; omega) hM | exact s117 σ4 M u be true k4 r4 hu hue (by rw [Bool.or_true]; unfold loadB; rw [eq_comm, decide_eq_true_iff]; omega) hM
    · refine x_iload (q := 94) dX9_value_92 rfl rfl ?_
      refine x_iload_n (q := 95) dX9_value_94 rfl rfl ?_
      refine xn_icmp_eq (q := 98) 112 dX9_value_95 (by decide) rfl (by omega) (by omega) (fun hc95 => ?_) (fun hc95 => ?_)
      · refine xn_iconst (q := 113) 1 dX9_value_112 rfl (by decide) ?_
        refine x_goto 117 dX9_value_113 (by decide) ?_
        first | exact s117 σ4 M u be false k4 r4 hu hue (by rw [hbe, Bool.or_false]; unfold loadB; rw [decide_eq_decide]; omega) hM | exact s117 σ4 M u be true k4 r4 hu hue (by rw [Bool.or_true]; unfold loadB; rw [eq_comm, decide_eq_true_iff]; omega) hM
      · refine x_iload (q := 100) dX9_value_98 rfl rfl ?_
        refine xn_iconst (q := 101) 4 dX9_value_100 rfl (by decide) ?_
        refine xn_icmp_ne (q := 104) 116 dX9_value_101 (by decide) rfl (by omega) (by omega) (fun hc101 => ?_) (fun hc101 => ?_)
        · refine xn_iconst (q := 117) 0 dX9_value_116 rfl (by decide) ?_
          first | exact s117 σ4 M u be false k4 r4 hu hue (by rw [hbe, Bool.or_false]; unfold loadB; rw [decide_eq_decide]; omega) hM | exact s117 σ4 M u be true k4 r4 hu hue (by rw [Bool.or_true]; unfold loadB; rw [eq_comm, decide_eq_true_iff]; omega) hM
        · refine x_iload (q := 106) dX9_value_104 rfl rfl ?_
          refine x_iload_n (q := 107) dX9_value_106 rfl rfl ?_
          refine xn_iconst (q := 108) 1 dX9_value_107 rfl (by decide) ?_
          refine xi_isub (q := 109) dX9_value_108 rfl (nI_i _) (nI_i _) ?_
          refine xi_icmp_ne (q := 112) 116 dX9_value_109 (by decide) rfl (nI_i _) rfl (by omega) (by omega) (by omega) (by omega) (fun hc109 => ?_) (fun hc109 => ?_)
          · refine xn_iconst (q := 117) 0 dX9_value_116 rfl (by decide) ?_
            first | exact s117 σ4 M u be false k4 r4 hu hue (by rw [hbe, Bool.or_false]; unfold loadB; rw [decide_eq_decide]; omega) hM | exact s117 σ4 M u be true k4 r4 hu hue (by rw [Bool.or_true]; unfold loadB; rw [eq_comm, decide_eq_true_iff]; omega) hM
          · refine xn_iconst (q := 113) 1 dX9_value_112 rfl (by decide) ?_
            refine x_goto 117 dX9_value_113 (by decide) ?_
            first | exact s117 σ4 M u be false k4 r4 hu hue (by rw [hbe, Bool.or_false]; unfold loadB; rw [decide_eq_decide]; omega) hM | exact s117 σ4 M u be true k4 r4 hu hue (by rw [Bool.or_true]; unfold loadB; rw [eq_comm, decide_eq_true_iff]; omega) hM
  have s67 : ∀ (σ4 : mS) (M : xM) (u : Int), keeps [0, 2, 3] σ σ4 → Reg σ4 0 u → u.natAbs ≤ 2 * BW → u + solD c * (if loadB m lm lp = true then 1 else 0) = val3 c m lm lp col → mAt o as σ4 M0 M → xX G l YX9_value (d + 4) (mQ o as M0 N S (fun x σ' => x = none ∧ keeps [0, 2, 3] σ σ' ∧ Reg σ' 0 (val3 c m lm lp col) ∧ (val3 c m lm lp col).natAbs ≤ 6 * BW)) 67 [(0, .ref o), (1, .int (nI 3)), (2, .int (nI m)), (3, .int (nI p)), (4, .int (nI lm)), (5, .int (nI lp)), (6, .int (nI col)), (7, .int (bI wi))] [] M N S := by
    intro σ4 M u k4 r4 hu hue hM
    refine x_iload (q := 69) dX9_value_67 rfl rfl ?_
    refine x_if_eq (q := 72) 84 dX9_value_69 (by decide) rfl (fun hc69 => ?_) (fun hc69 => ?_)
    · refine xn_iconst (q := 85) 0 dX9_value_84 rfl (by decide) ?_
      exact s85 σ4 M u false k4 r4 hu hue (by rw [eq_comm, decide_eq_false_iff_not]; have := of_decide_eq_false (hwi.symm.trans (bI_eq.mp hc69)); omega) hM
    · refine x_iload (q := 74) dX9_value_72 rfl rfl ?_
      refine x_iload_n (q := 75) dX9_value_74 rfl rfl ?_
      refine xn_iconst (q := 76) 1 dX9_value_75 rfl (by decide) ?_
      refine xi_isub (q := 77) dX9_value_76 rfl (nI_i _) (nI_i _) ?_
      refine xi_icmp_ne (q := 80) 84 dX9_value_77 (by decide) rfl (nI_i _) rfl (by omega) (by omega) (by omega) (by omega) (fun hc77 => ?_) (fun hc77 => ?_)
      · refine xn_iconst (q := 85) 0 dX9_value_84 rfl (by decide) ?_
        exact s85 σ4 M u false k4 r4 hu hue (by rw [eq_comm, decide_eq_false_iff_not]; omega) hM
      · refine xn_iconst (q := 81) 1 dX9_value_80 rfl (by decide) ?_
        refine x_goto 85 dX9_value_81 (by decide) ?_
        exact s85 σ4 M u true k4 r4 hu hue (by rw [eq_comm, decide_eq_true_iff]; have := of_decide_eq_true (hwi.symm.trans (bI_ne.mp hc69)); omega) hM
  have s49 : ∀ (σ4 : mS) (M : xM) (u : Int), keeps [0, 2, 3] σ σ4 → Reg σ4 0 u → u.natAbs ≤ 1 * BW → (u + (if 0 < m then solA c (4 * m - 1) col * -1 else 0)) + solD c * (if loadB m lm lp = true then 1 else 0) = val3 c m lm lp col → mAt o as σ4 M0 M → xX G l YX9_value (d + 4) (mQ o as M0 N S (fun x σ' => x = none ∧ keeps [0, 2, 3] σ σ' ∧ Reg σ' 0 (val3 c m lm lp col) ∧ (val3 c m lm lp col).natAbs ≤ 6 * BW)) 49 [(0, .ref o), (1, .int (nI 3)), (2, .int (nI m)), (3, .int (nI p)), (4, .int (nI lm)), (5, .int (nI lp)), (6, .int (nI col)), (7, .int (bI wi))] [] M N S := by
    intro σ4 M u k4 r4 hu hue hM
    refine x_iload_n (q := 50) dX9_value_49 rfl rfl ?_
    refine xn_if_le (q := 53) 67 dX9_value_50 (by decide) rfl (by omega) (fun hc50 => ?_) (fun hc50 => ?_)
    · rw [if_neg (by omega), Int.add_zero] at hue; exact s67 σ4 M u k4 r4 (by omega) hue hM
    · refine x_aload_n (q := 54) dX9_value_53 rfl rfl ?_
      refine xn_iconst (q := 55) 4 dX9_value_54 rfl (by decide) ?_
      refine x_iload_n (q := 56) dX9_value_55 rfl rfl ?_
      refine xn_imul (q := 57) dX9_value_56 rfl ?_
      refine xn_iconst (q := 58) 1 dX9_value_57 rfl (by decide) ?_
      refine xn_isub (q := 59) dX9_value_58 rfl (by omega) ?_
      refine x_iload (q := 61) dX9_value_59 rfl rfl ?_
      refine x_ldc2 (q := 64) (-1) dX9_value_61 rfl cwX9_176 ?_
      refine x_topl (y := iL (-1)) (by decide) ?_
      refine m_call (q := 67) (As := [_, _, _]) hM imX9_more ivX9_more ilX9_more mwX9_293 xciX9 dX9_value_64 rfl rfl rfl (Nat.le_of_ble_eq_true rfl) ?_
      refine (c_more G l o as M0 N S d σ4 (4 * m - 1) col (by omega) hcol _ u (-1) _ rfl (by decide) 1 (by decide) (k4.cel (hs.2.1 _ _ (by omega) hcol)) r4 hu).mono (fun x9 σ9 hp => ?_)
      obtain ⟨rfl, k9, r9, b9⟩ := hp
      intro M hM
      show xX G l _ (d + 4) _ _ _ _ M N S
      rw [if_pos hc50] at hue; exact s67 σ9 M _ (k4.trans k9) r9 b9 hue hM
  refine x_iload_n (q := 25) dX9_value_24 rfl rfl ?_
  refine xn_iconst (q := 26) 3 dX9_value_25 rfl (by decide) ?_
  refine xn_icmp_ne (q := 29) 139 dX9_value_26 (by decide) rfl (by omega) (by omega) (fun hc26 => absurd rfl hc26) (fun hc26 => ?_)
  refine x_iload_n (q := 30) dX9_value_29 rfl rfl ?_
  refine x_aload_n (q := 31) dX9_value_30 rfl rfl ?_
  refine m_get (q := 34) hM 3 fwX9_93 (by decide) dX9_value_31 rfl rfl ?_
  rw [show σ3.1 3 = nI c.m by rw [k3.1]; exact hs.1.2.1]
  refine xn_icmp_ge (q := 37) 49 dX9_value_34 (by decide) rfl (by omega) (by omega) (fun hc34 => ?_) (fun hc34 => ?_)
  · exact s49 σ3 M 0 k3 r3 (by show (0 : Nat) ≤ _; omega) (by unfold val3; rw [if_neg (show ¬ m < c.m by omega)]; rfl) hM
  · refine x_aload_n (q := 38) dX9_value_37 rfl rfl ?_
    refine xn_iconst (q := 39) 4 dX9_value_38 rfl (by decide) ?_
    refine x_iload_n (q := 40) dX9_value_39 rfl rfl ?_
    refine xn_imul (q := 41) dX9_value_40 rfl ?_
    refine xn_iconst (q := 42) 3 dX9_value_41 rfl (by decide) ?_
    refine xn_iadd (q := 43) dX9_value_42 rfl ?_
    refine x_iload (q := 45) dX9_value_43 rfl rfl ?_
    refine xn_lconst (q := 46) 1 dX9_value_45 rfl (by decide) ?_
    refine m_call (q := 49) (As := [_, _, _]) hM imX9_more ivX9_more ilX9_more mwX9_293 xciX9 dX9_value_46 rfl rfl rfl (Nat.le_of_ble_eq_true rfl) ?_
    refine (c_more G l o as M0 N S d σ3 (4 * m + 3) col (by omega) hcol _ 0 1 _ rfl (by decide) 0 (by decide) (k3.cel (hs.2.1 _ _ (by omega) hcol)) r3 (by show (0 : Nat) ≤ _; omega)).mono (fun x9 σ9 hp => ?_)
    obtain ⟨rfl, k9, r9, b9⟩ := hp
    intro M hM
    show xX G l _ (d + 4) _ _ _ _ M N S
    exact s49 σ9 M _ (k3.trans k9) r9 b9 (by unfold val3; rw [if_pos (show m < c.m by omega)]) hM
set_option maxRecDepth 100000 in
set_option maxHeartbeats 4000000 in
theorem c_val_0 (G : xG) (l : Launch) (o : Nat) (as : Nat → Nat) (M0 : xM) (N S : Nat) (d : Nat) (σ : mS) (c : mCf) (hs : Sv σ c) (m p lm lp col : Nat) (hm : m < c.m) (hp : p ≤ 4) (hlm : lm < c.m) (hlp : lp ≤ 4) (hcol : col < 28) (wi : Bool) (σ3 : mS) (k3 : keeps [0, 2, 3] σ σ3) (r3 : Reg σ3 0 0) (M : xM) (hM : mAt o as σ3 M0 M) : xX G l YX9_value (d + 4) (mQ o as M0 N S (fun x σ' => x = none ∧ keeps [0, 2, 3] σ σ' ∧ Reg σ' 0 (val0 c m p lm lp col) ∧ (val0 c m p lm lp col).natAbs ≤ 6 * BW)) 179 [(0, .ref o), (1, .int (nI 0)), (2, .int (nI m)), (3, .int (nI p)), (4, .int (nI lm)), (5, .int (nI lp)), (6, .int (nI col)), (7, .int (bI wi)), (8, .long (lN (c.L m))), (10, .long (lN (behN c m p lm lp)))] [] M N S := by
  have hm3 := hs.1.1.2.1
  have hD := hs.wD
  have hL := hs.1.1.2.2.1 m (by omega)
  have hE := hs.1.1.2.2.2.1 m (by omega)
  have hx : c.L m * p ≤ 48 := Nat.mul_le_mul hL.2 hp
  have hbe : behN c m p lm lp ≤ 48 := by
    unfold behN; split
    · exact Nat.mul_le_mul hL.2 (show p - lp ≤ 4 by omega)
    · omega
  refine x_iload_n (q := 180) dX9_value_179 rfl rfl ?_
  refine xn_if_ne (q := 183) 223 dX9_value_180 (by decide) rfl (by omega) (fun hc180 => absurd rfl hc180) (fun hc180 => ?_)
  refine x_aload_n (q := 184) dX9_value_183 rfl rfl ?_
  refine xn_iconst (q := 185) 4 dX9_value_184 rfl (by decide) ?_
  refine x_iload_n (q := 186) dX9_value_185 rfl rfl ?_
  refine xn_imul (q := 187) dX9_value_186 rfl ?_
  refine xn_iconst (q := 188) 2 dX9_value_187 rfl (by decide) ?_
  refine xn_iadd (q := 189) dX9_value_188 rfl ?_
  refine x_iload (q := 191) dX9_value_189 rfl rfl ?_
  refine xn_ldc2 (q := 194) 4 dX9_value_191 rfl cwX9_142 ?_
  refine m_call (q := 197) (As := [_, _, _]) hM imX9_more ivX9_more ilX9_more mwX9_293 xciX9 dX9_value_194 rfl rfl rfl (Nat.le_of_ble_eq_true rfl) ?_
  refine (c_more G l o as M0 N S d σ3 (4 * m + 2) col (by omega) hcol _ 0 4 _ rfl (by decide) 0 (by decide) (k3.cel (hs.2.1 _ _ (by omega) hcol)) r3 (by show (0 : Nat) ≤ _; omega)).mono (fun x9 σ5 hp => ?_)
  obtain ⟨rfl, k5, r5, b5⟩ := hp
  intro M hM
  show xX G l _ (d + 4) _ _ _ _ M N S
  refine x_aload_n (q := 198) dX9_value_197 rfl rfl ?_
  refine xn_iconst (q := 199) 4 dX9_value_198 rfl (by decide) ?_
  refine x_iload_n (q := 200) dX9_value_199 rfl rfl ?_
  refine xn_imul (q := 201) dX9_value_200 rfl ?_
  refine xn_iconst (q := 202) 3 dX9_value_201 rfl (by decide) ?_
  refine xn_iadd (q := 203) dX9_value_202 rfl ?_
  refine x_iload (q := 205) dX9_value_203 rfl rfl ?_
  refine x_lload (q := 207) dX9_value_205 rfl rfl ?_
  refine x_iload_n (q := 208) dX9_value_207 rfl rfl ?_
  refine xn_i2l (q := 209) dX9_value_208 rfl (by omega) ?_
  refine xn_lmul (q := 210) dX9_value_209 rfl ?_
  refine m_call (q := 213) (As := [_, _, _]) hM imX9_more ivX9_more ilX9_more mwX9_293 xciX9 dX9_value_210 rfl rfl rfl (Nat.le_of_ble_eq_true rfl) ?_
  refine (c_more G l o as M0 N S d σ5 (4 * m + 3) col (by omega) hcol _ _ _ _ (lN_t (by omega)) (by omega) 1 (by decide) ((k3.trans k5).cel (hs.2.1 _ _ (by omega) hcol)) r5 b5).mono (fun x9 σ6 hp => ?_)
  obtain ⟨rfl, k6, r6, b6⟩ := hp
  intro M hM
  show xX G l _ (d + 4) _ _ _ _ M N S
  refine x_aload_n (q := 214) dX9_value_213 rfl rfl ?_
  refine x_lload (q := 216) dX9_value_214 rfl rfl ?_
  refine xi_lneg (q := 217) dX9_value_216 rfl (lN_i' _) ?_
  refine m_call (q := 220) (As := [_]) hM imX9_whole ivX9_whole ilX9_whole mwX9_296 xciX9 dX9_value_217 rfl rfl rfl (Nat.le_of_ble_eq_true rfl) ?_
  refine (c_whole G l o as M0 N S d σ6 (solD c) _ (-(behN c m p lm lp : Int)) _ (iL_t (by omega) (by omega)) (by omega) 2 (by decide) ((k3.trans (k5.trans k6)).reg (by decide) hs.2.2) hD r6 b6).mono (fun x9 σ9 hp => ?_)
  obtain ⟨rfl, k9, r9, b9⟩ := hp
  intro M hM
  show xX G l _ (d + 4) _ _ _ _ M N S
  refine x_goto 365 dX9_value_220 (by decide) ?_
  exact x_vret rfl dX9_value_365 (m_ret hM ⟨rfl, k3.trans (k5.trans (k6.trans k9)), r9, Nat.le_trans b9 (Nat.mul_le_mul_right _ (by decide))⟩)
set_option maxRecDepth 100000 in
set_option maxHeartbeats 4000000 in
theorem c_val_1 (G : xG) (l : Launch) (o : Nat) (as : Nat → Nat) (M0 : xM) (N S : Nat) (d : Nat) (σ : mS) (c : mCf) (hs : Sv σ c) (m p lm lp col : Nat) (hm : m < c.m) (hp : p ≤ 4) (hlm : lm < c.m) (hlp : lp ≤ 4) (hcol : col < 28) (wi : Bool) (σ3 : mS) (k3 : keeps [0, 2, 3] σ σ3) (r3 : Reg σ3 0 0) (M : xM) (hM : mAt o as σ3 M0 M) : xX G l YX9_value (d + 4) (mQ o as M0 N S (fun x σ' => x = none ∧ keeps [0, 2, 3] σ σ' ∧ Reg σ' 0 (val1 c m p lm lp col) ∧ (val1 c m p lm lp col).natAbs ≤ 6 * BW)) 179 [(0, .ref o), (1, .int (nI 1)), (2, .int (nI m)), (3, .int (nI p)), (4, .int (nI lm)), (5, .int (nI lp)), (6, .int (nI col)), (7, .int (bI wi)), (8, .long (lN (c.L m))), (10, .long (lN (behN c m p lm lp)))] [] M N S := by
  have hm3 := hs.1.1.2.1
  have hD := hs.wD
  have hL := hs.1.1.2.2.1 m (by omega)
  have hE := hs.1.1.2.2.2.1 m (by omega)
  have hx : c.L m * p ≤ 48 := Nat.mul_le_mul hL.2 hp
  have hbe : behN c m p lm lp ≤ 48 := by
    unfold behN; split
    · exact Nat.mul_le_mul hL.2 (show p - lp ≤ 4 by omega)
    · omega
  refine x_iload_n (q := 180) dX9_value_179 rfl rfl ?_
  refine xn_if_ne (q := 183) 223 dX9_value_180 (by decide) rfl (by omega) (fun hc180 => ?_) (fun hc180 => absurd hc180 (by decide))
  refine x_iload_n (q := 224) dX9_value_223 rfl rfl ?_
  refine xn_iconst (q := 225) 1 dX9_value_224 rfl (by decide) ?_
  refine xn_icmp_ne (q := 228) 261 dX9_value_225 (by decide) rfl (by omega) (by omega) (fun hc225 => absurd rfl hc225) (fun hc225 => ?_)
  refine x_aload_n (q := 229) dX9_value_228 rfl rfl ?_
  refine xn_iconst (q := 230) 4 dX9_value_229 rfl (by decide) ?_
  refine x_iload_n (q := 231) dX9_value_230 rfl rfl ?_
  refine xn_imul (q := 232) dX9_value_231 rfl ?_
  refine xn_iconst (q := 233) 3 dX9_value_232 rfl (by decide) ?_
  refine xn_iadd (q := 234) dX9_value_233 rfl ?_
  refine x_iload (q := 236) dX9_value_234 rfl rfl ?_
  refine xn_lconst (q := 237) 1 dX9_value_236 rfl (by decide) ?_
  refine m_call (q := 240) (As := [_, _, _]) hM imX9_more ivX9_more ilX9_more mwX9_293 xciX9 dX9_value_237 rfl rfl rfl (Nat.le_of_ble_eq_true rfl) ?_
  refine (c_more G l o as M0 N S d σ3 (4 * m + 3) col (by omega) hcol _ 0 1 _ rfl (by decide) 0 (by decide) (k3.cel (hs.2.1 _ _ (by omega) hcol)) r3 (by show (0 : Nat) ≤ _; omega)).mono (fun x9 σ5 hp => ?_)
  obtain ⟨rfl, k5, r5, b5⟩ := hp
  intro M hM
  show xX G l _ (d + 4) _ _ _ _ M N S
  refine x_aload_n (q := 241) dX9_value_240 rfl rfl ?_
  refine x_lload (q := 243) dX9_value_241 rfl rfl ?_
  refine xn_lconst (q := 244) 0 dX9_value_243 rfl (by decide) ?_
  refine xn_lcmp_le (q1 := 245) (q := 248) 254 dX9_value_244 rfl dX9_value_245 (by decide) rfl (by omega) (by omega) (fun hc244 => ?_) (fun hc244 => ?_)
  · refine xn_lconst (q := 255) 0 dX9_value_254 rfl (by decide) ?_
    refine m_call (q := 258) (As := [_]) hM imX9_whole ivX9_whole ilX9_whole mwX9_296 xciX9 dX9_value_255 rfl rfl rfl (Nat.le_of_ble_eq_true rfl) ?_
    refine (c_whole G l o as M0 N S d σ5 (solD c) _ 0 _ rfl (by decide) 1 (by decide) ((k3.trans k5).reg (by decide) hs.2.2) hD r5 b5).mono (fun x9 σ9 hp => ?_)
    obtain ⟨rfl, k9, r9, b9⟩ := hp
    intro M hM
    show xX G l _ (d + 4) _ _ _ _ M N S
    refine x_goto 365 dX9_value_258 (by decide) ?_
    have e0 : val1 c m p lm lp col = 0 + solA c (4 * m + 3) col * 1 + solD c * 0 := by unfold val1; rw [if_neg (by omega)]
    exact x_vret rfl dX9_value_365 (m_ret hM ⟨rfl, k3.trans (k5.trans k9), by rw [e0]; exact r9, by rw [e0]; exact Nat.le_trans b9 (Nat.mul_le_mul_right _ (by decide))⟩)
  · refine x_ldc2 (q := 251) (-1) dX9_value_248 rfl cwX9_176 ?_
    refine x_topl (y := iL (-1)) (by decide) ?_
    refine x_goto 255 dX9_value_251 (by decide) ?_
    refine m_call (q := 258) (As := [_]) hM imX9_whole ivX9_whole ilX9_whole mwX9_296 xciX9 dX9_value_255 rfl rfl rfl (Nat.le_of_ble_eq_true rfl) ?_
    refine (c_whole G l o as M0 N S d σ5 (solD c) _ (-1) _ rfl (by decide) 1 (by decide) ((k3.trans k5).reg (by decide) hs.2.2) hD r5 b5).mono (fun x9 σ9 hp => ?_)
    obtain ⟨rfl, k9, r9, b9⟩ := hp
    intro M hM
    show xX G l _ (d + 4) _ _ _ _ M N S
    refine x_goto 365 dX9_value_258 (by decide) ?_
    have e0 : val1 c m p lm lp col = 0 + solA c (4 * m + 3) col * 1 + solD c * -1 := by unfold val1; rw [if_pos (by omega)]
    exact x_vret rfl dX9_value_365 (m_ret hM ⟨rfl, k3.trans (k5.trans k9), by rw [e0]; exact r9, by rw [e0]; exact Nat.le_trans b9 (Nat.mul_le_mul_right _ (by decide))⟩)
set_option maxRecDepth 100000 in
set_option maxHeartbeats 4000000 in
theorem c_val_2 (G : xG) (l : Launch) (o : Nat) (as : Nat → Nat) (M0 : xM) (N S : Nat) (d : Nat) (σ : mS) (c : mCf) (hs : Sv σ c) (m p lm lp col : Nat) (hm : m < c.m) (hp : p ≤ 4) (hlm : lm < c.m) (hlp : lp ≤ 4) (hcol : col < 28) (wi : Bool) (σ3 : mS) (k3 : keeps [0, 2, 3] σ σ3) (r3 : Reg σ3 0 0) (M : xM) (hM : mAt o as σ3 M0 M) : xX G l YX9_value (d + 4) (mQ o as M0 N S (fun x σ' => x = none ∧ keeps [0, 2, 3] σ σ' ∧ Reg σ' 0 (val2 c m p lm lp col) ∧ (val2 c m p lm lp col).natAbs ≤ 6 * BW)) 179 [(0, .ref o), (1, .int (nI 2)), (2, .int (nI m)), (3, .int (nI p)), (4, .int (nI lm)), (5, .int (nI lp)), (6, .int (nI col)), (7, .int (bI wi)), (8, .long (lN (c.L m))), (10, .long (lN (behN c m p lm lp)))] [] M N S := by
  have hm3 := hs.1.1.2.1
  have hD := hs.wD
  have hL := hs.1.1.2.2.1 m (by omega)
  have hE := hs.1.1.2.2.2.1 m (by omega)
  have hx : c.L m * p ≤ 48 := Nat.mul_le_mul hL.2 hp
  have hbe : behN c m p lm lp ≤ 48 := by
    unfold behN; split
    · exact Nat.mul_le_mul hL.2 (show p - lp ≤ 4 by omega)
    · omega
  have h1 : 384 * c.E m ≤ 4608 := by omega
  have h2 : 96 * c.E m * (c.L m * p) ≤ 55296 := Nat.mul_le_mul (by omega : 96 * c.E m ≤ 1152) hx
  have h3 : 12 * (c.L m * p) * (c.L m * p) ≤ 27648 := Nat.mul_le_mul (by omega : 12 * (c.L m * p) ≤ 576) hx
  have h4 : c.L m * p * (c.L m * p) * (c.L m * p) ≤ 110592 := Nat.mul_le_mul (Nat.mul_le_mul hx hx) hx
  have h5 : behN c m p lm lp * behN c m p lm lp * behN c m p lm lp ≤ 110592 := Nat.mul_le_mul (Nat.mul_le_mul hbe hbe) hbe
  have e3 : -12 * ((c.L m * p : Nat) : Int) * ((c.L m * p : Nat) : Int) = -((12 * (c.L m * p) * (c.L m * p) : Nat) : Int) := by
    generalize c.L m * p = x
    rw [Int.natCast_mul, Int.natCast_mul, Int.neg_mul, Int.neg_mul]; rfl
  have e4 : -((c.L m * p : Nat) : Int) * ((c.L m * p : Nat) : Int) * ((c.L m * p : Nat) : Int) = -((c.L m * p * (c.L m * p) * (c.L m * p) : Nat) : Int) := by
    generalize c.L m * p = x
    rw [Int.natCast_mul, Int.natCast_mul, Int.neg_mul, Int.neg_mul]
  refine x_iload_n (q := 180) dX9_value_179 rfl rfl ?_
  refine xn_if_ne (q := 183) 223 dX9_value_180 (by decide) rfl (by omega) (fun hc180 => ?_) (fun hc180 => absurd hc180 (by decide))
  refine x_iload_n (q := 224) dX9_value_223 rfl rfl ?_
  refine xn_iconst (q := 225) 1 dX9_value_224 rfl (by decide) ?_
  refine xn_icmp_ne (q := 228) 261 dX9_value_225 (by decide) rfl (by omega) (by omega) (fun hc225 => ?_) (fun hc225 => absurd hc225 (by decide))
  refine x_lload (q := 263) dX9_value_261 rfl rfl ?_
  refine x_iload_n (q := 264) dX9_value_263 rfl rfl ?_
  refine xn_i2l (q := 265) dX9_value_264 rfl (by omega) ?_
  refine xn_lmul (q := 266) dX9_value_265 rfl ?_
  refine x_lstore (q := 268) (ls' := [(0, _), (1, _), (2, _), (3, _), (4, _), (5, _), (6, _), (7, _), (8, _), (10, _), (12, _)]) [1, 2, 3, 4, 5, 6, 7, 8, 9, 10, 0] dX9_value_266 rfl (by decide) rfl ?_
  refine x_aload_n (q := 269) dX9_value_268 rfl rfl ?_
  refine xn_iconst (q := 270) 4 dX9_value_269 rfl (by decide) ?_
  refine x_iload_n (q := 271) dX9_value_270 rfl rfl ?_
  refine xn_imul (q := 272) dX9_value_271 rfl ?_
  refine x_iload (q := 274) dX9_value_272 rfl rfl ?_
  refine xn_ldc2 (q := 277) 384 dX9_value_274 rfl cwX9_147 ?_
  refine x_aload_n (q := 278) dX9_value_277 rfl rfl ?_
  refine m_get (q := 281) hM 5 fwX9_16 (by decide) dX9_value_278 rfl rfl ?_
  refine x_iload_n (q := 282) dX9_value_281 rfl rfl ?_
  refine m_iald (q := 283) hM (n := 3) (by decide) dX9_value_282 rfl (by omega) ?_
  rw [show σ3.2.1 5 m = nI (c.E m) by rw [k3.2.2.1 5 (by decide) (by decide) (by decide)]; exact hs.1.2.2.2.1 m (by omega)]
  refine xn_i2l (q := 284) dX9_value_283 rfl (by omega) ?_
  refine xn_lmul (q := 285) dX9_value_284 rfl ?_
  refine m_call (q := 288) (As := [_, _, _]) hM imX9_more ivX9_more ilX9_more mwX9_293 xciX9 dX9_value_285 rfl rfl rfl (Nat.le_of_ble_eq_true rfl) ?_
  refine (c_more G l o as M0 N S d σ3 (4 * m) col (by omega) hcol _ 0 _ _ (lN_t (by omega)) (by omega) 0 (by decide) (k3.cel (hs.2.1 _ _ (by omega) hcol)) r3 (by show (0 : Nat) ≤ _; omega)).mono (fun x9 σ5 hp => ?_)
  obtain ⟨rfl, k5, r5, b5⟩ := hp
  intro M hM
  show xX G l _ (d + 4) _ _ _ _ M N S
  refine x_aload_n (q := 289) dX9_value_288 rfl rfl ?_
  refine xn_iconst (q := 290) 4 dX9_value_289 rfl (by decide) ?_
  refine x_iload_n (q := 291) dX9_value_290 rfl rfl ?_
  refine xn_imul (q := 292) dX9_value_291 rfl ?_
  refine xn_iconst (q := 293) 1 dX9_value_292 rfl (by decide) ?_
  refine xn_iadd (q := 294) dX9_value_293 rfl ?_
  refine x_iload (q := 296) dX9_value_294 rfl rfl ?_
  refine xn_ldc2 (q := 299) 96 dX9_value_296 rfl cwX9_300 ?_
  refine x_aload_n (q := 300) dX9_value_299 rfl rfl ?_
  refine m_get (q := 303) hM 5 fwX9_16 (by decide) dX9_value_300 rfl rfl ?_
  refine x_iload_n (q := 304) dX9_value_303 rfl rfl ?_
  refine m_iald (q := 305) hM (n := 3) (by decide) dX9_value_304 rfl (by omega) ?_
  rw [show σ5.2.1 5 m = nI (c.E m) by rw [k5.2.2.1 5 (by decide) (by decide) (by decide), k3.2.2.1 5 (by decide) (by decide) (by decide)]; exact hs.1.2.2.2.1 m (by omega)]
  refine xn_i2l (q := 306) dX9_value_305 rfl (by omega) ?_
  refine xn_lmul (q := 307) dX9_value_306 rfl ?_
  refine x_lload (q := 309) dX9_value_307 rfl rfl ?_
  refine xn_lmul (q := 310) dX9_value_309 rfl ?_
  refine m_call (q := 313) (As := [_, _, _]) hM imX9_more ivX9_more ilX9_more mwX9_293 xciX9 dX9_value_310 rfl rfl rfl (Nat.le_of_ble_eq_true rfl) ?_
  refine (c_more G l o as M0 N S d σ5 (4 * m + 1) col (by omega) hcol _ _ _ _ (lN_t (by omega)) (by omega) 1 (by decide) ((k3.trans k5).cel (hs.2.1 _ _ (by omega) hcol)) r5 b5).mono (fun x9 σ6 hp => ?_)
  obtain ⟨rfl, k6, r6, b6⟩ := hp
  intro M hM
  show xX G l _ (d + 4) _ _ _ _ M N S
  refine x_aload_n (q := 314) dX9_value_313 rfl rfl ?_
  refine xn_iconst (q := 315) 4 dX9_value_314 rfl (by decide) ?_
  refine x_iload_n (q := 316) dX9_value_315 rfl rfl ?_
  refine xn_imul (q := 317) dX9_value_316 rfl ?_
  refine xn_iconst (q := 318) 2 dX9_value_317 rfl (by decide) ?_
  refine xn_iadd (q := 319) dX9_value_318 rfl ?_
  refine x_iload (q := 321) dX9_value_319 rfl rfl ?_
  refine x_ldc2 (q := 324) (-12) dX9_value_321 rfl cwX9_302 ?_
  refine x_topl (y := iL (-12)) (by decide) ?_
  refine x_lload (q := 326) dX9_value_324 rfl rfl ?_
  refine xi_lmul (q := 327) dX9_value_326 rfl rfl (lN_i' _) ?_
  refine x_lload (q := 329) dX9_value_327 rfl rfl ?_
  refine xi_lmul (q := 330) dX9_value_329 rfl rfl (lN_i' _) ?_
  refine m_call (q := 333) (As := [_, _, _]) hM imX9_more ivX9_more ilX9_more mwX9_293 xciX9 dX9_value_330 rfl rfl rfl (Nat.le_of_ble_eq_true rfl) ?_
  refine (c_more G l o as M0 N S d σ6 (4 * m + 2) col (by omega) hcol _ _ (-((12 * (c.L m * p) * (c.L m * p) : Nat) : Int)) _ (by rw [e3]; exact iL_t (by omega) (by omega)) (by omega) 2 (by decide) ((k3.trans (k5.trans k6)).cel (hs.2.1 _ _ (by omega) hcol)) r6 b6).mono (fun x9 σ7 hp => ?_)
  obtain ⟨rfl, k7, r7, b7⟩ := hp
  intro M hM
  show xX G l _ (d + 4) _ _ _ _ M N S
  refine x_aload_n (q := 334) dX9_value_333 rfl rfl ?_
  refine xn_iconst (q := 335) 4 dX9_value_334 rfl (by decide) ?_
  refine x_iload_n (q := 336) dX9_value_335 rfl rfl ?_
  refine xn_imul (q := 337) dX9_value_336 rfl ?_
  refine xn_iconst (q := 338) 3 dX9_value_337 rfl (by decide) ?_
  refine xn_iadd (q := 339) dX9_value_338 rfl ?_
  refine x_iload (q := 341) dX9_value_339 rfl rfl ?_
  refine x_lload (q := 343) dX9_value_341 rfl rfl ?_
  refine xi_lneg (q := 344) dX9_value_343 rfl (lN_i' _) ?_
  refine x_lload (q := 346) dX9_value_344 rfl rfl ?_
  refine xi_lmul (q := 347) dX9_value_346 rfl rfl (lN_i' _) ?_
  refine x_lload (q := 349) dX9_value_347 rfl rfl ?_
  refine xi_lmul (q := 350) dX9_value_349 rfl rfl (lN_i' _) ?_
  refine m_call (q := 353) (As := [_, _, _]) hM imX9_more ivX9_more ilX9_more mwX9_293 xciX9 dX9_value_350 rfl rfl rfl (Nat.le_of_ble_eq_true rfl) ?_
  refine (c_more G l o as M0 N S d σ7 (4 * m + 3) col (by omega) hcol _ _ (-((c.L m * p * (c.L m * p) * (c.L m * p) : Nat) : Int)) _ (by rw [e4]; exact iL_t (by omega) (by omega)) (by omega) 3 (by decide) ((k3.trans (k5.trans (k6.trans k7))).cel (hs.2.1 _ _ (by omega) hcol)) r7 b7).mono (fun x9 σ8 hp => ?_)
  obtain ⟨rfl, k8, r8, b8⟩ := hp
  intro M hM
  show xX G l _ (d + 4) _ _ _ _ M N S
  refine x_aload_n (q := 354) dX9_value_353 rfl rfl ?_
  refine x_lload (q := 356) dX9_value_354 rfl rfl ?_
  refine x_lload (q := 358) dX9_value_356 rfl rfl ?_
  refine xn_lmul (q := 359) dX9_value_358 rfl ?_
  refine x_lload (q := 361) dX9_value_359 rfl rfl ?_
  refine xn_lmul (q := 362) dX9_value_361 rfl ?_
  refine m_call (q := 365) (As := [_]) hM imX9_whole ivX9_whole ilX9_whole mwX9_296 xciX9 dX9_value_362 rfl rfl rfl (Nat.le_of_ble_eq_true rfl) ?_
  refine (c_whole G l o as M0 N S d σ8 (solD c) _ _ _ (lN_t (by omega)) (by omega) 4 (by decide) ((k3.trans (k5.trans (k6.trans (k7.trans k8)))).reg (by decide) hs.2.2) hD r8 b8).mono (fun x9 σ9 hp => ?_)
  obtain ⟨rfl, k9, r9, b9⟩ := hp
  intro M hM
  show xX G l _ (d + 4) _ _ _ _ M N S
  exact x_vret rfl dX9_value_365 (m_ret hM ⟨rfl, k3.trans (k5.trans (k6.trans (k7.trans (k8.trans k9)))), r9, Nat.le_trans b9 (Nat.mul_le_mul_right _ (by decide))⟩)
set_option maxRecDepth 100000 in
set_option maxHeartbeats 4000000 in
theorem c_value (G : xG) (l : Launch) (o : Nat) (as : Nat → Nat) (M0 : xM) (N S : Nat) (d : Nat) (σ : mS) (c : mCf) (hs : Sv σ c) (w m p lm lp col : Nat) (hw : w ≤ 3) (hm : m < c.m ∨ (w = 3 ∧ m ≤ c.m)) (hp : p ≤ 4) (hlm : lm < c.m) (hlp : lp ≤ 4) (hcol : col < 28) : mC G l o as M0 N S YX9_value (d + 4) [.int (nI w), .int (nI m), .int (nI p), .int (nI lm), .int (nI lp), .int (nI col)] σ (fun x σ' => x = none ∧ keeps [0, 2, 3] σ σ' ∧ Reg σ' 0 (valP c w m p lm lp col) ∧ (valP c w m p lm lp col).natAbs ≤ 6 * BW) := by
  have hm3 := hs.1.1.2.1
  refine mC.of (ls := [(0, .ref o), (1, .int (nI w)), (2, .int (nI m)), (3, .int (nI p)), (4, .int (nI lm)), (5, .int (nI lp)), (6, .int (nI col))]) (by decide) (Nat.le_of_ble_eq_true rfl) rfl fun M hM => ?_
  have s24 : ∀ (σ3 : mS) (M : xM) (wi : Bool), keeps [0, 2, 3] σ σ3 → Reg σ3 0 0 → wi = decide (0 < lp ∧ lp < 4) → mAt o as σ3 M0 M → xX G l YX9_value (d + 4) (mQ o as M0 N S (fun x σ' => x = none ∧ keeps [0, 2, 3] σ σ' ∧ Reg σ' 0 (valP c w m p lm lp col) ∧ (valP c w m p lm lp col).natAbs ≤ 6 * BW)) 24 [(0, .ref o), (1, .int (nI w)), (2, .int (nI m)), (3, .int (nI p)), (4, .int (nI lm)), (5, .int (nI lp)), (6, .int (nI col)), (7, .int (bI wi))] [] M N S := by
    intro σ3 M wi k3 r3 hwi hM
    rcases (show w = 3 ∨ w ≠ 3 by omega) with e | e
    · subst e
      exact c_val_3 G l o as M0 N S d σ c hs m p lm lp col hp hlm hlp hcol (by omega) wi hwi σ3 k3 r3 M hM
    · have hmc : m < c.m := by omega
      have hL := hs.1.1.2.2.1 m (by omega)
      have s177 : xX G l YX9_value (d + 4) (mQ o as M0 N S (fun x σ' => x = none ∧ keeps [0, 2, 3] σ σ' ∧ Reg σ' 0 (valP c w m p lm lp col) ∧ (valP c w m p lm lp col).natAbs ≤ 6 * BW)) 179 [(0, .ref o), (1, .int (nI w)), (2, .int (nI m)), (3, .int (nI p)), (4, .int (nI lm)), (5, .int (nI lp)), (6, .int (nI col)), (7, .int (bI wi)), (8, .long (lN (c.L m))), (10, .long (lN (behN c m p lm lp)))] [] M N S := by
        rcases (show w = 0 ∨ w = 1 ∨ w = 2 by omega) with h | h | h
        · subst h; exact c_val_0 G l o as M0 N S d σ c hs m p lm lp col hmc hp hlm hlp hcol wi σ3 k3 r3 M hM
        · subst h; exact c_val_1 G l o as M0 N S d σ c hs m p lm lp col hmc hp hlm hlp hcol wi σ3 k3 r3 M hM
        · subst h; exact c_val_2 G l o as M0 N S d σ c hs m p lm lp col hmc hp hlm hlp hcol wi σ3 k3 r3 M hM
      refine x_iload_n (q := 25) dX9_value_24 rfl rfl ?_
      refine xn_iconst (q := 26) 3 dX9_value_25 rfl (by decide) ?_
      refine xn_icmp_ne (q := 29) 139 dX9_value_26 (by decide) rfl (by omega) (by omega) (fun hc26 => ?_) (fun hc26 => absurd hc26 e)
      refine x_aload_n (q := 140) dX9_value_139 rfl rfl ?_
      refine m_get (q := 143) hM 4 fwX9_13 (by decide) dX9_value_140 rfl rfl ?_
      refine x_iload_n (q := 144) dX9_value_143 rfl rfl ?_
      refine m_iald (q := 145) hM (n := 3) (by decide) dX9_value_144 rfl (by omega) ?_
      rw [show σ3.2.1 4 m = nI (c.L m) by rw [k3.2.2.1 4 (by decide) (by decide) (by decide)]; exact hs.1.2.2.1 m (by omega)]
      refine xn_i2l (q := 146) dX9_value_145 rfl (by omega) ?_
      refine x_lstore (q := 148) (ls' := [(0, _), (1, _), (2, _), (3, _), (4, _), (5, _), (6, _), (7, _), (8, _)]) [1, 2, 3, 4, 5, 6, 7, 8, 0] dX9_value_146 rfl (by decide) rfl ?_
      refine x_iload (q := 150) dX9_value_148 rfl rfl ?_
      refine x_if_eq (q := 153) 176 dX9_value_150 (by decide) rfl (fun hc150 => ?_) (fun hc150 => ?_)
      · refine xn_lconst (q := 177) 0 dX9_value_176 rfl (by decide) ?_
        refine x_lstore (q := 179) (ls' := [(0, _), (1, _), (2, _), (3, _), (4, _), (5, _), (6, _), (7, _), (8, _), (10, _)]) [1, 2, 3, 4, 5, 6, 7, 8, 9, 0] dX9_value_177 rfl (by decide) rfl ?_
        have e0 : behN c m p lm lp = 0 := by unfold behN; exact if_neg (fun h => by have := of_decide_eq_false (hwi.symm.trans (bI_eq.mp hc150)); omega)
        rw [e0] at s177; exact s177
      · refine x_iload (q := 155) dX9_value_153 rfl rfl ?_
        refine x_iload_n (q := 156) dX9_value_155 rfl rfl ?_
        refine xn_icmp_ne (q := 159) 176 dX9_value_156 (by decide) rfl (by omega) (by omega) (fun hc156 => ?_) (fun hc156 => ?_)
        · refine xn_lconst (q := 177) 0 dX9_value_176 rfl (by decide) ?_
          refine x_lstore (q := 179) (ls' := [(0, _), (1, _), (2, _), (3, _), (4, _), (5, _), (6, _), (7, _), (8, _), (10, _)]) [1, 2, 3, 4, 5, 6, 7, 8, 9, 0] dX9_value_177 rfl (by decide) rfl ?_
          have e0 : behN c m p lm lp = 0 := by unfold behN; exact if_neg (fun h => by omega)
          rw [e0] at s177; exact s177
        · refine x_iload (q := 161) dX9_value_159 rfl rfl ?_
          refine x_iload_n (q := 162) dX9_value_161 rfl rfl ?_
          refine xn_icmp_ge (q := 165) 176 dX9_value_162 (by decide) rfl (by omega) (by omega) (fun hc162 => ?_) (fun hc162 => ?_)
          · refine xn_lconst (q := 177) 0 dX9_value_176 rfl (by decide) ?_
            refine x_lstore (q := 179) (ls' := [(0, _), (1, _), (2, _), (3, _), (4, _), (5, _), (6, _), (7, _), (8, _), (10, _)]) [1, 2, 3, 4, 5, 6, 7, 8, 9, 0] dX9_value_177 rfl (by decide) rfl ?_
            have e0 : behN c m p lm lp = 0 := by unfold behN; exact if_neg (fun h => by omega)
            rw [e0] at s177; exact s177
          · refine x_lload (q := 167) dX9_value_165 rfl rfl ?_
            refine x_iload_n (q := 168) dX9_value_167 rfl rfl ?_
            refine x_iload (q := 170) dX9_value_168 rfl rfl ?_
            refine xn_isub (q := 171) dX9_value_170 rfl (by omega) ?_
            refine xn_i2l (q := 172) dX9_value_171 rfl (by omega) ?_
            refine xn_lmul (q := 173) dX9_value_172 rfl ?_
            refine x_goto 177 dX9_value_173 (by decide) ?_
            refine x_lstore (q := 179) (ls' := [(0, _), (1, _), (2, _), (3, _), (4, _), (5, _), (6, _), (7, _), (8, _), (10, _)]) [1, 2, 3, 4, 5, 6, 7, 8, 9, 0] dX9_value_177 rfl (by decide) rfl ?_
            have e0 : behN c m p lm lp = c.L m * (p - lp) := by unfold behN; have := of_decide_eq_true (hwi.symm.trans (bI_ne.mp hc150)); exact if_pos (by omega)
            rw [e0] at s177; exact s177
  refine x_aload_n (q := 1) dX9_value_0 rfl rfl ?_
  refine xn_iconst (q := 2) 0 dX9_value_1 rfl (by decide) ?_
  refine xn_lconst (q := 3) 0 dX9_value_2 rfl (by decide) ?_
  refine m_call (q := 6) (As := [_, _]) hM imX9_put ivX9_put ilX9_put mwX9_121 xciX9 dX9_value_3 rfl rfl rfl (Nat.le_of_ble_eq_true rfl) ?_
  refine (c_put G l o as M0 N S (d + 3) 0 (by decide) (lN 0) 0 rfl (by decide) σ).mono (fun x9 σ3 hp => ?_)
  obtain ⟨rfl, k3, r3⟩ := hp
  intro M hM
  show xX G l _ (d + 4) _ _ _ _ M N S
  refine x_iload (q := 8) dX9_value_6 rfl rfl ?_
  refine xn_if_le (q := 11) 21 dX9_value_8 (by decide) rfl (by omega) (fun hc8 => ?_) (fun hc8 => ?_)
  · refine xn_iconst (q := 22) 0 dX9_value_21 rfl (by decide) ?_
    refine x_istore (q := 24) (ls' := [(0, _), (1, _), (2, _), (3, _), (4, _), (5, _), (6, _), (7, _)]) [1, 2, 3, 4, 5, 6, 7, 0] dX9_value_22 rfl (by decide) rfl ?_
    exact s24 σ3 M false (k3.s (by simp)) r3 (decide_eq_false (by omega)).symm hM
  · refine x_iload (q := 13) dX9_value_11 rfl rfl ?_
    refine xn_iconst (q := 14) 4 dX9_value_13 rfl (by decide) ?_
    refine xn_icmp_ge (q := 17) 21 dX9_value_14 (by decide) rfl (by omega) (by omega) (fun hc14 => ?_) (fun hc14 => ?_)
    · refine xn_iconst (q := 22) 0 dX9_value_21 rfl (by decide) ?_
      refine x_istore (q := 24) (ls' := [(0, _), (1, _), (2, _), (3, _), (4, _), (5, _), (6, _), (7, _)]) [1, 2, 3, 4, 5, 6, 7, 0] dX9_value_22 rfl (by decide) rfl ?_
      exact s24 σ3 M false (k3.s (by simp)) r3 (decide_eq_false (by omega)).symm hM
    · refine xn_iconst (q := 18) 1 dX9_value_17 rfl (by decide) ?_
      refine x_goto 22 dX9_value_18 (by decide) ?_
      refine x_istore (q := 24) (ls' := [(0, _), (1, _), (2, _), (3, _), (4, _), (5, _), (6, _), (7, _)]) [1, 2, 3, 4, 5, 6, 7, 0] dX9_value_22 rfl (by decide) rfl ?_
      exact s24 σ3 M true (k3.s (by simp)) r3 (decide_eq_true (by omega)).symm hM
end XR7
