section XR8
def overP (c : mCf) (w m : Nat) : Nat := if w = 0 then 4 else if w = 2 then 384 * c.E m else 1
theorem overP_le {c : mCf} (hc : okCf c) {w m : Nat} (h : w = 2 → m < 3) : 1 ≤ overP c w m ∧ overP c w m ≤ 4608 := by
  unfold overP
  split
  · omega
  · split
    · rename_i e; have := hc.2.2.2.1 m (h e); omega
    · omega
set_option maxRecDepth 100000 in
set_option maxHeartbeats 4000000 in
theorem c_over (G : xG) (l : Launch) (o : Nat) (as : Nat → Nat) (M0 : xM) (N S : Nat) (d : Nat) (σ : mS) (c : mCf) (hc : Cf σ c) (w m : Nat) (hw : w ≤ 3) (hm : w = 2 → m < c.m) : mC G l o as M0 N S YX9_over d [.int (nI w), .int (nI m)] σ (fun x σ' => x = some (.long (lN (overP c w m))) ∧ σ' = σ) := by
  obtain ⟨ok, h3, h4, h5, h6, h7, h8, h9⟩ := hc
  have ok3 := ok.2.1
  refine mC.of (ls := [(0, .ref o), (1, .int (nI w)), (2, .int (nI m))]) (by decide) (Nat.le_of_ble_eq_true rfl) rfl fun M hM => ?_
  refine x_iload_n (q := 1) dX9_over_0 rfl rfl ?_
  refine xn_if_ne (q := 4) 10 dX9_over_1 (by decide) rfl (by omega) (fun hc1 => ?_) (fun hc1 => ?_)
  · refine x_iload_n (q := 11) dX9_over_10 rfl rfl ?_
    refine xn_iconst (q := 12) 2 dX9_over_11 rfl (by decide) ?_
    refine xn_icmp_ne (q := 15) 29 dX9_over_12 (by decide) rfl (by omega) (by omega) (fun hc12 => ?_) (fun hc12 => ?_)
    · refine xn_lconst (q := 30) 1 dX9_over_29 rfl (by decide) ?_
      exact x_lret rfl dX9_over_30 (m_ret hM ⟨by unfold overP; rw [if_neg (by omega), if_neg (by omega)], rfl⟩)
    · refine xn_ldc2 (q := 18) 384 dX9_over_15 rfl cwX9_147 ?_
      refine x_aload_n (q := 19) dX9_over_18 rfl rfl ?_
      refine m_get (q := 22) hM 5 fwX9_16 (by decide) dX9_over_19 rfl rfl ?_
      refine x_iload_n (q := 23) dX9_over_22 rfl rfl ?_
      refine m_iald (q := 24) hM (n := 3) (by decide) dX9_over_23 rfl (by omega) ?_
      rw [h5 m (by omega)]
      refine xn_i2l (q := 25) dX9_over_24 rfl (by have := (ok.2.2.2.1 m (by omega)).2; omega) ?_
      refine xn_lmul (q := 26) dX9_over_25 rfl ?_
      refine x_goto 30 dX9_over_26 (by decide) ?_
      exact x_lret rfl dX9_over_30 (m_ret hM ⟨by unfold overP; rw [if_neg (by omega), if_pos (by omega)], rfl⟩)
  · refine xn_ldc2 (q := 7) 4 dX9_over_4 rfl cwX9_142 ?_
    refine x_goto 30 dX9_over_7 (by decide) ?_
    exact x_lret rfl dX9_over_30 (m_ret hM ⟨by unfold overP; rw [if_pos (by omega)], rfl⟩)
def isPl (c : mCf) (b p : Int) : Bool := decide (0 ≤ b ∧ b < (c.m : Int) ∧ 0 ≤ p ∧ p ≤ 4)
set_option maxRecDepth 100000 in
set_option maxHeartbeats 4000000 in
theorem c_isPlace (G : xG) (l : Launch) (o : Nat) (as : Nat → Nat) (M0 : xM) (N S : Nat) (d : Nat) (σ : mS) (c : mCf) (hc : Cf σ c) (b p : Int) (hb1 : -2147483648 ≤ b) (hb2 : b < 2147483648) (hp1 : -2147483648 ≤ p) (hp2 : p < 2147483648) : mC G l o as M0 N S YX9_isPlace d [.int (iI b), .int (iI p)] σ (fun x σ' => x = some (.int (bI (isPl c b p))) ∧ σ' = σ) := by
  obtain ⟨ok, h3, h4, h5, h6, h7, h8, h9⟩ := hc
  have hm3 := ok.2.1
  refine mC.of (ls := [(0, .ref o), (1, .int (iI b)), (2, .int (iI p))]) (by decide) (Nat.le_of_ble_eq_true rfl) rfl fun M hM => ?_
  refine x_iload_n (q := 1) dX9_isPlace_0 rfl rfl ?_
  refine xi_if_lt (q := 4) 25 dX9_isPlace_1 (by decide) rfl rfl (by omega) (by omega) (fun hc1 => ?_) (fun hc1 => ?_)
  · refine xn_iconst (q := 26) 0 dX9_isPlace_25 rfl (by decide) ?_
    exact x_zret rfl (by decide) dX9_isPlace_26 (m_ret hM ⟨by unfold isPl; rw [decide_eq_false (by omega)]; rfl, rfl⟩)
  · refine x_iload_n (q := 5) dX9_isPlace_4 rfl rfl ?_
    refine x_aload_n (q := 6) dX9_isPlace_5 rfl rfl ?_
    refine m_get (q := 9) hM 3 fwX9_93 (by decide) dX9_isPlace_6 rfl rfl ?_
    rw [h3]
    refine xi_icmp_ge (q := 12) 25 dX9_isPlace_9 (by decide) rfl rfl (nI_i _) (by omega) (by omega) (by omega) (by omega) (fun hc9 => ?_) (fun hc9 => ?_)
    · refine xn_iconst (q := 26) 0 dX9_isPlace_25 rfl (by decide) ?_
      exact x_zret rfl (by decide) dX9_isPlace_26 (m_ret hM ⟨by unfold isPl; rw [decide_eq_false (by omega)]; rfl, rfl⟩)
    · refine x_iload_n (q := 13) dX9_isPlace_12 rfl rfl ?_
      refine xi_if_lt (q := 16) 25 dX9_isPlace_13 (by decide) rfl rfl (by omega) (by omega) (fun hc13 => ?_) (fun hc13 => ?_)
      · refine xn_iconst (q := 26) 0 dX9_isPlace_25 rfl (by decide) ?_
        exact x_zret rfl (by decide) dX9_isPlace_26 (m_ret hM ⟨by unfold isPl; rw [decide_eq_false (by omega)]; rfl, rfl⟩)
      · refine x_iload_n (q := 17) dX9_isPlace_16 rfl rfl ?_
        refine xn_iconst (q := 18) 4 dX9_isPlace_17 rfl (by decide) ?_
        refine xi_icmp_gt (q := 21) 25 dX9_isPlace_18 (by decide) rfl rfl (nI_i _) (by omega) (by omega) (by omega) (by omega) (fun hc18 => ?_) (fun hc18 => ?_)
        · refine xn_iconst (q := 26) 0 dX9_isPlace_25 rfl (by decide) ?_
          exact x_zret rfl (by decide) dX9_isPlace_26 (m_ret hM ⟨by unfold isPl; rw [decide_eq_false (by omega)]; rfl, rfl⟩)
        · refine xn_iconst (q := 22) 1 dX9_isPlace_21 rfl (by decide) ?_
          refine x_goto 26 dX9_isPlace_22 (by decide) ?_
          exact x_zret rfl (by decide) dX9_isPlace_26 (m_ret hM ⟨by unfold isPl; rw [decide_eq_true (by omega)]; rfl, rfl⟩)
def rowAt (r : List (Nat × Nat × Nat)) (k : Nat) : Nat × Nat × Nat := r.getD k (0, 0, 0)
def vOf (c : mCf) (q : Nat × Nat × Nat) (lm lp : Nat) : Int := valP c q.1 q.2.1 q.2.2 lm lp (4 * c.m + 5 * lm + lp)
set_option maxRecDepth 100000 in
set_option maxHeartbeats 4000000 in
theorem c_valueOf (G : xG) (l : Launch) (o : Nat) (as : Nat → Nat) (M0 : xM) (N S : Nat) (d : Nat) (σ : mS) (c : mCf) (hs : Sv σ c) (rs : List (Nat × Nat × Nat)) (hr : Rws σ c rs) (r lm lp : Nat) (hrl : r < rs.length) (hlm : lm < c.m) (hlp : lp ≤ 4) : mC G l o as M0 N S YX9_valueOf (d + 5) [.int (nI r), .int (nI lm), .int (nI lp)] σ (fun x σ' => x = none ∧ keeps [0, 2, 3] σ σ' ∧ Reg σ' 0 (vOf c (rowAt rs r) lm lp) ∧ (vOf c (rowAt rs r) lm lp).natAbs ≤ 6 * BW) := by
  obtain ⟨r8, h10, hrw⟩ := hr
  obtain ⟨h11, h12, h13, hok⟩ := hrw r hrl
  have hm3 := hs.1.1.2.1
  unfold okRow at hok
  refine mC.of (ls := [(0, .ref o), (1, .int (nI r)), (2, .int (nI lm)), (3, .int (nI lp))]) (by decide) (Nat.le_of_ble_eq_true rfl) rfl fun M hM => ?_
  refine x_aload_n (q := 1) dX9_valueOf_0 rfl rfl ?_
  refine x_aload_n (q := 2) dX9_valueOf_1 rfl rfl ?_
  refine m_get (q := 5) hM 11 fwX9_32 (by decide) dX9_valueOf_2 rfl rfl ?_
  refine x_iload_n (q := 6) dX9_valueOf_5 rfl rfl ?_
  refine m_iald (q := 7) hM (n := 8) (by decide) dX9_valueOf_6 rfl (by omega) ?_
  rw [h11]
  refine x_aload_n (q := 8) dX9_valueOf_7 rfl rfl ?_
  refine m_get (q := 11) hM 12 fwX9_35 (by decide) dX9_valueOf_8 rfl rfl ?_
  refine x_iload_n (q := 12) dX9_valueOf_11 rfl rfl ?_
  refine m_iald (q := 13) hM (n := 8) (by decide) dX9_valueOf_12 rfl (by omega) ?_
  rw [h12]
  refine x_aload_n (q := 14) dX9_valueOf_13 rfl rfl ?_
  refine m_get (q := 17) hM 13 fwX9_38 (by decide) dX9_valueOf_14 rfl rfl ?_
  refine x_iload_n (q := 18) dX9_valueOf_17 rfl rfl ?_
  refine m_iald (q := 19) hM (n := 8) (by decide) dX9_valueOf_18 rfl (by omega) ?_
  rw [h13]
  refine x_iload_n (q := 20) dX9_valueOf_19 rfl rfl ?_
  refine x_iload_n (q := 21) dX9_valueOf_20 rfl rfl ?_
  refine x_aload_n (q := 22) dX9_valueOf_21 rfl rfl ?_
  refine x_iload_n (q := 23) dX9_valueOf_22 rfl rfl ?_
  refine x_iload_n (q := 24) dX9_valueOf_23 rfl rfl ?_
  refine m_call (q := 27) (As := [_, _]) hM imX9_column ivX9_column ilX9_column mwX9_144 xciX9 dX9_valueOf_24 rfl rfl rfl (Nat.le_of_ble_eq_true rfl) ?_
  refine (c_column G l o as M0 N S (d + 4) σ c.m lm lp hs.1.2.1).mono (fun x9 σ9 hp => ?_)
  obtain ⟨rfl, e9⟩ := hp
  intro M hM
  rw [e9] at hM; clear e9 σ9
  show xX G l _ (d + 5) _ _ _ _ M N S
  refine m_call (q := 30) (As := [_, _, _, _, _, _]) hM imX9_value ivX9_value ilX9_value mwX9_304 xciX9 dX9_valueOf_27 rfl rfl rfl (Nat.le_of_ble_eq_true rfl) ?_
  refine (c_value G l o as M0 N S d σ c hs _ _ _ lm lp _ (by omega) (by omega) (by omega) hlm hlp (by omega)).mono (fun x9 σ9 hp => ?_)
  obtain ⟨rfl, k9, r9, b9⟩ := hp
  intro M hM
  show xX G l _ (d + 5) _ _ _ _ M N S
  exact x_vret rfl dX9_valueOf_30 (m_ret hM ⟨rfl, k9, r9, b9⟩)
def refP (q : Int) : Int := if q = -1 then -2 else -1
set_option maxRecDepth 100000 in
set_option maxHeartbeats 4000000 in
theorem c_refused (G : xG) (l : Launch) (d : Nat) (M : xM) (N S : Nat) (q : Int) (hq1 : -2147483648 ≤ q) (hq2 : q < 2147483648) (Q : xPost) (hQ : Q (some (.long (iL (refP q)))) M N S) : xC G l YX9_refused d [.int (iI q)] M N S Q := by
  refine xC.of (ls := [(0, .int (iI q))]) (by decide) (Nat.le_of_ble_eq_true rfl) rfl ?_
  refine x_iload_n (q := 1) dX9_refused_0 rfl rfl ?_
  refine x_iconst (q := 2) (iI (-1)) dX9_refused_1 rfl (by decide) ?_
  refine xi_icmp_ne (q := 5) 11 dX9_refused_2 (by decide) rfl rfl rfl (by omega) (by omega) (by omega) (by omega) (fun hc2 => ?_) (fun hc2 => ?_)
  · refine x_ldc2 (q := 14) (-1) dX9_refused_11 rfl cwX9_176 ?_
    refine x_topl (y := iL (-1)) (by decide) ?_
    exact x_lret rfl dX9_refused_14 (by unfold refP at hQ; rw [if_neg (by omega)] at hQ; exact hQ)
  · refine x_ldc2 (q := 8) (-2) dX9_refused_5 rfl cwX9_308 ?_
    refine x_topl (y := iL (-2)) (by decide) ?_
    refine x_goto 14 dX9_refused_8 (by decide) ?_
    exact x_lret rfl dX9_refused_14 (by unfold refP at hQ; rw [if_pos (by omega)] at hQ; exact hQ)
def isRw (z : mT) (r : Int) : Bool := decide (0 ≤ r ∧ r < (z.2.2.length : Int) ∧ looseB z.1 = false ∧ ((rowAt z.2.2 r.toNat).1 ≠ 3 ∨ z.1.Hi (rowAt z.2.2 r.toNat).2.1 = true))
set_option maxRecDepth 100000 in
set_option maxHeartbeats 4000000 in
theorem c_isRow (G : xG) (l : Launch) (o : Nat) (as : Nat → Nat) (M0 : xM) (N S : Nat) (d : Nat) (σ : mS) (z : mT) (hR : RR σ z) (hok : slvOk z.1) (r : Int) (hr1 : -2147483648 ≤ r) (hr2 : r < 2147483648) : mC G l o as M0 N S YX9_isRow (d + 6) [.int (iI r)] σ (fun x σ' => x = some (.int (bI (isRw z r))) ∧ RS σ' z) := by
  refine mC.of (ls := [(0, .ref o), (1, .int (iI r))]) (by decide) (Nat.le_of_ble_eq_true rfl) rfl fun M hM => ?_
  refine x_aload_n (q := 1) dX9_isRow_0 rfl rfl ?_
  refine m_call (q := 4) (As := []) hM imX9_solveAll ivX9_solveAll ilX9_solveAll mwX9_252 xciX9 dX9_isRow_1 rfl rfl rfl (Nat.le_of_ble_eq_true rfl) ?_
  refine (c_solveR G l o as M0 N S d σ z hR hok).mono (fun x9 σ9 hp => ?_)
  obtain ⟨rfl, z9, r9⟩ := hp
  intro M hM
  show xX G l _ (d + 6) _ _ _ _ M N S
  have h10 := r9.2.2.2.2.2.1
  have h8 := r9.2.2.2.2.1
  have h23 := r9.2.2.1.1.1
  have hrow := r9.2.2.2.2.2.2
  have hm3 := r9.1.1.2.1
  have h7 := r9.1.2.2.2.2.2.1
  refine x_iload_n (q := 5) dX9_isRow_4 rfl rfl ?_
  refine xi_if_lt (q := 8) 51 dX9_isRow_5 (by decide) rfl rfl (by omega) (by omega) (fun hc5 => ?_) (fun hc5 => ?_)
  · refine xn_iconst (q := 52) 0 dX9_isRow_51 rfl (by decide) ?_
    exact x_zret rfl (by decide) dX9_isRow_52 (m_ret hM ⟨by rw [show isRw z r = false from decide_eq_false (fun h => by omega)]; rfl, r9⟩)
  · refine x_iload_n (q := 9) dX9_isRow_8 rfl rfl ?_
    refine x_aload_n (q := 10) dX9_isRow_9 rfl rfl ?_
    refine m_get (q := 13) hM 10 fwX9_284 (by decide) dX9_isRow_10 rfl rfl ?_
    rw [h10]
    refine xi_icmp_ge (q := 16) 51 dX9_isRow_13 (by decide) rfl rfl (nI_i _) (by omega) (by omega) (by omega) (by omega) (fun hc13 => ?_) (fun hc13 => ?_)
    · refine xn_iconst (q := 52) 0 dX9_isRow_51 rfl (by decide) ?_
      exact x_zret rfl (by decide) dX9_isRow_52 (m_ret hM ⟨by rw [show isRw z r = false from decide_eq_false (fun h => by omega)]; rfl, r9⟩)
    · refine x_aload_n (q := 17) dX9_isRow_16 rfl rfl ?_
      refine m_get (q := 20) hM 23 fwX9_212 (by decide) dX9_isRow_17 rfl rfl ?_
      rw [h23]
      refine x_if_ne (q := 23) 51 dX9_isRow_20 (by decide) rfl (fun hc20 => ?_) (fun hc20 => ?_)
      · refine xn_iconst (q := 52) 0 dX9_isRow_51 rfl (by decide) ?_
        exact x_zret rfl (by decide) dX9_isRow_52 (m_ret hM ⟨by rw [show isRw z r = false from decide_eq_false (fun h => by rw [bI_ne.mp hc20] at h; exact absurd h.2.2.1 (by decide))]; rfl, r9⟩)
      · refine x_aload_n (q := 24) dX9_isRow_23 rfl rfl ?_
        refine m_get (q := 27) hM 11 fwX9_32 (by decide) dX9_isRow_24 rfl rfl ?_
        refine x_iload_n (q := 28) dX9_isRow_27 rfl rfl ?_
        refine x_topi (y := nI r.toNat) (by rw [nI_i r.toNat]; exact congrArg iI (by omega)) ?_
        have hok2 := (hrow r.toNat (by omega)).2.2.2
        have hrl : (rowAt z.2.2 r.toNat).1 ≤ 3 := by unfold okRow rowAt at *; omega
        refine m_iald (q := 29) hM (n := 8) (by decide) dX9_isRow_28 rfl (by omega) ?_
        rw [show σ9.2.1 11 r.toNat = nI (rowAt z.2.2 r.toNat).1 from (hrow r.toNat (by omega)).1]
        refine xn_iconst (q := 30) 3 dX9_isRow_29 rfl (by decide) ?_
        refine xn_icmp_ne (q := 33) 47 dX9_isRow_30 (by decide) rfl (by omega) (by omega) (fun hc30 => ?_) (fun hc30 => ?_)
        · refine xn_iconst (q := 48) 1 dX9_isRow_47 rfl (by decide) ?_
          refine x_goto 52 dX9_isRow_48 (by decide) ?_
          exact x_zret rfl (by decide) dX9_isRow_52 (m_ret hM ⟨by rw [show isRw z r = true from decide_eq_true ⟨by omega, by omega, bI_eq.mp hc20, .inl hc30⟩]; rfl, r9⟩)
        · refine x_aload_n (q := 34) dX9_isRow_33 rfl rfl ?_
          refine m_get (q := 37) hM 7 fwX9_23 (by decide) dX9_isRow_34 rfl rfl ?_
          refine x_aload_n (q := 38) dX9_isRow_37 rfl rfl ?_
          refine m_get (q := 41) hM 12 fwX9_35 (by decide) dX9_isRow_38 rfl rfl ?_
          refine x_iload_n (q := 42) dX9_isRow_41 rfl rfl ?_
          refine x_topi (y := nI r.toNat) (by rw [nI_i r.toNat]; exact congrArg iI (by omega)) ?_
          refine m_iald (q := 43) hM (n := 8) (by decide) dX9_isRow_42 rfl (by omega) ?_
          rw [show σ9.2.1 12 r.toNat = nI (rowAt z.2.2 r.toNat).2.1 from (hrow r.toNat (by omega)).2.1]
          refine m_zald (q := 44) hM (n := 4) (by decide) dX9_isRow_43 rfl (by unfold okRow rowAt at *; omega) ?_
          rw [h7 _ (by unfold okRow rowAt at *; omega)]
          refine x_if_eq (q := 47) 51 dX9_isRow_44 (by decide) rfl (fun hc44 => ?_) (fun hc44 => ?_)
          · refine xn_iconst (q := 52) 0 dX9_isRow_51 rfl (by decide) ?_
            exact x_zret rfl (by decide) dX9_isRow_52 (m_ret hM ⟨by rw [show isRw z r = false from decide_eq_false (fun h => by rcases h.2.2.2 with g | g; exact g hc30; rw [bI_eq.mp hc44] at g; exact absurd g (by decide))]; rfl, r9⟩)
          · refine xn_iconst (q := 48) 1 dX9_isRow_47 rfl (by decide) ?_
            refine x_goto 52 dX9_isRow_48 (by decide) ?_
            exact x_zret rfl (by decide) dX9_isRow_52 (m_ret hM ⟨by rw [show isRw z r = true from decide_eq_true ⟨by omega, by omega, bI_eq.mp hc20, .inr (bI_ne.mp hc44)⟩]; rfl, r9⟩)
def spAt (z : mT) (r b p q : Int) : Int64 := if isRw z r = true ∧ isPl z.1 b p = true ∧ -1 ≤ q then
    tellv q (redP (vOf z.1 (rowAt z.2.2 r.toNat) b.toNat p.toNat) (solD z.1 * (overP z.1 (rowAt z.2.2 r.toNat).1 (rowAt z.2.2 r.toNat).2.1 : Nat))) (redQ (vOf z.1 (rowAt z.2.2 r.toNat) b.toNat p.toNat) (solD z.1 * (overP z.1 (rowAt z.2.2 r.toNat).1 (rowAt z.2.2 r.toNat).2.1 : Nat)))
  else iL (refP q)
set_option maxRecDepth 100000 in
set_option maxHeartbeats 4000000 in
theorem c_at (G : xG) (l : Launch) (o : Nat) (as : Nat → Nat) (M0 : xM) (N S : Nat) (d : Nat) (σ : mS) (z : mT) (hR : RR σ z) (hok : slvOk z.1) (r b p q : Int) (hr1 : -2147483648 ≤ r) (hr2 : r < 2147483648) (hb1 : -2147483648 ≤ b) (hb2 : b < 2147483648) (hp1 : -2147483648 ≤ p) (hp2 : p < 2147483648) (hq1 : -2147483648 ≤ q) (hq2 : q < 2147483648) : mC G l o as M0 N S YX9_at (d + 7) [.int (iI r), .int (iI b), .int (iI p), .int (iI q)] σ (fun x σ' => x = some (.long (spAt z r b p q)) ∧ RR σ' z) := by
  refine mC.of (ls := [(0, .ref o), (1, .int (iI r)), (2, .int (iI b)), (3, .int (iI p)), (4, .int (iI q))]) (by decide) (Nat.le_of_ble_eq_true rfl) rfl fun M hM => ?_
  refine x_aload_n (q := 1) dX9_at_0 rfl rfl ?_
  refine xn_iconst (q := 2) 0 dX9_at_1 rfl (by decide) ?_
  refine m_putG (q := 5) hM 0 fwX9_97 (by decide) rfl rfl rfl dX9_at_2 rfl rfl rfl (fun M σ2 a2 e2 b2 hM => ?_)
  refine x_aload_n (q := 6) dX9_at_5 rfl rfl ?_
  refine x_iload_n (q := 7) dX9_at_6 rfl rfl ?_
  refine m_call (q := 10) (As := [_]) hM imX9_isRow ivX9_isRow ilX9_isRow mwX9_310 xciX9 dX9_at_7 rfl rfl rfl (Nat.le_of_ble_eq_true rfl) ?_
  refine (c_isRow G l o as M0 N S d σ2 z (hR.code a2 b2) hok r hr1 hr2).mono (fun x9 σ9 hp => ?_)
  obtain ⟨rfl, r9⟩ := hp
  intro M hM
  show xX G l _ (d + 7) _ _ _ _ M N S
  refine x_if_eq (q := 13) 28 dX9_at_10 (by decide) rfl (fun hc10 => ?_) (fun hc10 => ?_)
  · refine x_iload (q := 30) dX9_at_28 rfl rfl ?_
    refine x_callS (q := 33) (As := [_]) imX9_refused isX9_refused mwX9_317 dX9_at_30 rfl rfl rfl (Nat.le_of_ble_eq_true rfl) ?_
    refine c_refused G l _ M N S q hq1 hq2 _ ?_
    show xX G l _ (d + 7) _ _ _ _ M N S
    exact x_lret rfl dX9_at_33 (m_ret hM ⟨by rw [show spAt z r b p q = iL (refP q) from if_neg (fun h => by rw [bI_eq.mp hc10] at h; exact absurd h.1 (by decide))], r9.rr⟩)
  · refine x_aload_n (q := 14) dX9_at_13 rfl rfl ?_
    refine x_iload_n (q := 15) dX9_at_14 rfl rfl ?_
    refine x_iload_n (q := 16) dX9_at_15 rfl rfl ?_
    refine m_call (q := 19) (As := [_, _]) hM imX9_isPlace ivX9_isPlace ilX9_isPlace mwX9_313 xciX9 dX9_at_16 rfl rfl rfl (Nat.le_of_ble_eq_true rfl) ?_
    refine (c_isPlace G l o as M0 N S (d + 6) σ9 z.1 r9.1 b p hb1 hb2 hp1 hp2).mono (fun x9 σ9 hp => ?_)
    obtain ⟨rfl, e9⟩ := hp
    intro M hM
    rw [e9] at hM; clear e9 σ9
    show xX G l _ (d + 7) _ _ _ _ M N S
    refine x_if_eq (q := 22) 28 dX9_at_19 (by decide) rfl (fun hc19 => ?_) (fun hc19 => ?_)
    · refine x_iload (q := 30) dX9_at_28 rfl rfl ?_
      refine x_callS (q := 33) (As := [_]) imX9_refused isX9_refused mwX9_317 dX9_at_30 rfl rfl rfl (Nat.le_of_ble_eq_true rfl) ?_
      refine c_refused G l _ M N S q hq1 hq2 _ ?_
      show xX G l _ (d + 7) _ _ _ _ M N S
      exact x_lret rfl dX9_at_33 (m_ret hM ⟨by rw [show spAt z r b p q = iL (refP q) from if_neg (fun h => by rw [bI_eq.mp hc19] at h; exact absurd h.2.1 (by decide))], r9.rr⟩)
    · refine x_iload (q := 24) dX9_at_22 rfl rfl ?_
      refine x_iconst (q := 25) (iI (-1)) dX9_at_24 rfl (by decide) ?_
      refine xi_icmp_ge (q := 28) 34 dX9_at_25 (by decide) rfl rfl rfl (by omega) (by omega) (by omega) (by omega) (fun hc25 => ?_) (fun hc25 => ?_)
      · have hir := bI_ne.mp hc10
        have hip := bI_ne.mp hc19
        obtain ⟨i1, i2, i3, i4⟩ := of_decide_eq_true hir
        obtain ⟨j1, j2, j3, j4⟩ := of_decide_eq_true hip
        have hsv := r9.sv i3
        have hD := hsv.wD
        have hD0 : solD z.1 ≠ 0 := gjS_ne (hok.2 i3) _ (Nat.le_refl _)
        have hrow := r9.2.2.2.2.2.2 r.toNat (by omega)
        have h8 := r9.2.2.2.2.1
        have hokr : okRow z.1 (rowAt z.2.2 r.toNat) := hrow.2.2.2
        have hov := overP_le hsv.1.1 (w := (rowAt z.2.2 r.toNat).1) (m := (rowAt z.2.2 r.toNat).2.1) (fun e => by have := hsv.1.1.2.1; unfold okRow at hokr; omega)
        have er : iI r = nI r.toNat := by rw [nI_i r.toNat]; exact congrArg iI (by omega)
        have eb : iI b = nI b.toNat := by rw [nI_i b.toNat]; exact congrArg iI (by omega)
        have ep : iI p = nI p.toNat := by rw [nI_i p.toNat]; exact congrArg iI (by omega)
        rw [er, eb, ep]
        refine x_aload_n (q := 35) dX9_at_34 rfl rfl ?_
        refine x_iload_n (q := 36) dX9_at_35 rfl rfl ?_
        refine x_iload_n (q := 37) dX9_at_36 rfl rfl ?_
        refine x_iload_n (q := 38) dX9_at_37 rfl rfl ?_
        refine m_call (q := 41) (As := [_, _, _]) hM imX9_valueOf ivX9_valueOf ilX9_valueOf mwX9_321 xciX9 dX9_at_38 rfl rfl rfl (Nat.le_of_ble_eq_true rfl) ?_
        refine (c_valueOf G l o as M0 N S (d + 1) σ9 z.1 hsv z.2.2 r9.2.2.2.2 r.toNat b.toNat p.toNat (by omega) (by omega) (by omega)).mono (fun x9 σ5 hp => ?_)
        obtain ⟨rfl, k5, r5, b5⟩ := hp
        intro M hM
        show xX G l _ (d + 7) _ _ _ _ M N S
        refine x_aload_n (q := 42) dX9_at_41 rfl rfl ?_
        refine xn_bipush (q := 44) 10 dX9_at_42 rfl (by decide) ?_
        refine xn_iconst (q := 45) 1 dX9_at_44 rfl (by decide) ?_
        refine m_call (q := 48) (As := [_, _]) hM imX9_copy ivX9_copy ilX9_copy mwX9_107 xciX9 dX9_at_45 rfl rfl rfl (Nat.le_of_ble_eq_true rfl) ?_
        refine (c_copy G l o as M0 N S (d + 6) 10 1 (by decide) (by decide) (by decide) σ5 _ (k5.reg (by decide) hsv.2.2)).mono (fun x9 σ6 hp => ?_)
        obtain ⟨rfl, k6', r6⟩ := hp
        intro M hM
        show xX G l _ (d + 7) _ _ _ _ M N S
        replace k5 : keeps [0, 1, 2, 3] σ9 σ5 := k5.mono (by intro r hr; simp at hr ⊢; omega)
        have k6 : keeps [0, 1, 2, 3] σ5 σ6 := k6'.s (by simp)
        have hsv6 := hsv.keeps (k5.trans k6) (by decide)
        have r06 : Reg σ6 0 _ := keeps.reg (L := [1]) (k6'.s (by simp)) (by decide) r5
        refine x_aload_n (q := 49) dX9_at_48 rfl rfl ?_
        refine xn_iconst (q := 50) 1 dX9_at_49 rfl (by decide) ?_
        refine x_aload_n (q := 51) dX9_at_50 rfl rfl ?_
        refine x_aload_n (q := 52) dX9_at_51 rfl rfl ?_
        refine m_get (q := 55) hM 11 fwX9_32 (by decide) dX9_at_52 rfl rfl ?_
        refine x_iload_n (q := 56) dX9_at_55 rfl rfl ?_
        refine m_iald (q := 57) hM (n := 8) (by decide) dX9_at_56 rfl (by omega) ?_
        rw [show σ6.2.1 11 r.toNat = nI (rowAt z.2.2 r.toNat).1 by rw [k6.2.2.1 11 (by decide) (by decide) (by decide), k5.2.2.1 11 (by decide) (by decide) (by decide)]; exact hrow.1]
        refine x_aload_n (q := 58) dX9_at_57 rfl rfl ?_
        refine m_get (q := 61) hM 12 fwX9_35 (by decide) dX9_at_58 rfl rfl ?_
        refine x_iload_n (q := 62) dX9_at_61 rfl rfl ?_
        refine m_iald (q := 63) hM (n := 8) (by decide) dX9_at_62 rfl (by omega) ?_
        rw [show σ6.2.1 12 r.toNat = nI (rowAt z.2.2 r.toNat).2.1 by rw [k6.2.2.1 12 (by decide) (by decide) (by decide), k5.2.2.1 12 (by decide) (by decide) (by decide)]; exact hrow.2.1]
        refine m_call (q := 66) (As := [_, _]) hM imX9_over ivX9_over ilX9_over mwX9_324 xciX9 dX9_at_63 rfl rfl rfl (Nat.le_of_ble_eq_true rfl) ?_
        refine (c_over G l o as M0 N S (d + 6) σ6 z.1 hsv6.1 _ _ (by unfold okRow at hokr; omega) (fun e => by have := hsv.1.1.2.1; unfold okRow at hokr; omega)).mono (fun x9 σ9 hp => ?_)
        obtain ⟨rfl, e9⟩ := hp
        intro M hM
        rw [e9] at hM; clear e9 σ9
        show xX G l _ (d + 7) _ _ _ _ M N S
        refine m_call (q := 69) (As := [_, _]) hM imX9_multiplySmall ivX9_multiplySmall ilX9_multiplySmall mwX9_129 xciX9 dX9_at_66 rfl rfl rfl (Nat.le_of_ble_eq_true rfl) ?_
        refine (c_multiplySmall G l o as M0 N S (d + 5) 1 (by decide) _ _ (lN_t (by omega)) (by omega) σ6 _ r6 (Nat.lt_of_lt_of_le hD (B9_mono (by decide)))).mono (fun x9 σ7 hp => ?_)
        obtain ⟨rfl, k7, r7⟩ := hp
        intro M hM
        show xX G l _ (d + 7) _ _ _ _ M N S
        have r07 : Reg σ7 0 _ := k7.reg (by decide) r06
        replace k7 : keeps [0, 1, 2, 3] σ6 σ7 := k7.s (by simp)
        refine x_aload_n (q := 70) dX9_at_69 rfl rfl ?_
        refine m_call (q := 73) (As := []) hM imX9_reduce ivX9_reduce ilX9_reduce mwX9_327 xciX9 dX9_at_70 rfl rfl rfl (Nat.le_of_ble_eq_true rfl) ?_
        have hne : solD z.1 * (overP z.1 (rowAt z.2.2 r.toNat).1 (rowAt z.2.2 r.toNat).2.1 : Nat) ≠ 0 := Int.mul_ne_zero hD0 (by omega)
        have hwn := BW_mul (b := ((overP z.1 (rowAt z.2.2 r.toNat).1 (rowAt z.2.2 r.toNat).2.1 : Nat) : Int)) hD (by omega)
        refine (c_reduce G l o as M0 N S (d + 3) σ7 _ _ r07 r7 hne (B9_27_399 (BW_le (j := 6) (by decide) b5) (by decide)) (B9_27_399 (BW_le (j := 1) (by decide) (by rw [Nat.one_mul]; exact hwn)) (by decide))).mono (fun x9 σ8 hp => ?_)
        obtain ⟨rfl, k8, r80, r81⟩ := hp
        intro M hM
        show xX G l _ (d + 7) _ _ _ _ M N S
        refine x_aload_n (q := 74) dX9_at_73 rfl rfl ?_
        refine x_iload (q := 76) dX9_at_74 rfl rfl ?_
        refine m_call (q := 79) (As := [_]) hM imX9_tell ivX9_tell ilX9_tell mwX9_330 xciX9 dX9_at_76 rfl rfl rfl (Nat.le_of_ble_eq_true rfl) ?_
        refine (c_tell G l o as M0 N S (d + 6) σ8 q hc25 (by omega) _ _ r80 r81).mono (fun x9 σ9 hp => ?_)
        obtain ⟨rfl, e9⟩ := hp
        intro M hM
        rw [e9] at hM; clear e9 σ9
        show xX G l _ (d + 7) _ _ _ _ M N S
        rw [show spAt z r b p q = _ from if_pos ⟨hir, hip, hc25⟩]
        exact x_lret rfl dX9_at_79 (m_ret hM ⟨rfl, ((r9.keeps (k5.trans (k6.trans k7)) (by decide)).keeps k8 (by decide)).rr⟩)
      · refine x_iload (q := 30) dX9_at_28 rfl rfl ?_
        refine x_callS (q := 33) (As := [_]) imX9_refused isX9_refused mwX9_317 dX9_at_30 rfl rfl rfl (Nat.le_of_ble_eq_true rfl) ?_
        refine c_refused G l _ M N S q hq1 hq2 _ ?_
        show xX G l _ (d + 7) _ _ _ _ M N S
        exact x_lret rfl dX9_at_33 (m_ret hM ⟨by rw [show spAt z r b p q = iL (refP q) from if_neg (fun h => by omega)], r9.rr⟩)
end XR8
