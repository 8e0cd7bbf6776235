section XS2
/-- only registers (but those not named) and what is held changed -/
def kh (L : List Nat) (σ σ' : mS) : Prop := onl [] [14, 15, 16, 35, 36, 37] [] σ σ' ∧ ∀ r v, r ∉ L → Reg σ r v → Reg σ' r v
theorem kh.rfl' {L : List Nat} {σ : mS} : kh L σ σ := ⟨onl.rfl', fun _ _ _ h => h⟩
theorem kh.trans {L : List Nat} {σ σ' σ'' : mS} (h : kh L σ σ') (h2 : kh L σ' σ'') : kh L σ σ'' := ⟨h.1.trans h2.1, fun r v hr hv => h2.2 r v hr (h.2 r v hr hv)⟩
theorem kh.mono {L L' : List Nat} {σ σ' : mS} (h : kh L σ σ') (hl : ∀ r ∈ L, r ∈ L') : kh L' σ σ' := ⟨h.1, fun r v hr hv => h.2 r v (fun e => hr (hl r e)) hv⟩
theorem keeps.kh {L : List Nat} {σ σ' : mS} (h : keeps L σ σ') : kh L σ σ' := ⟨h.onl.mono (by simp) (by intro k hk; simp at hk ⊢; omega) (by simp), fun r v hr hv => h.reg hr hv⟩
theorem keepN.kh {L : List Nat} {c : Nat} {σ σ' : mS} (h : keepN 35 36 37 24 c σ σ') : kh L σ σ' :=
  ⟨⟨fun _ _ => by rw [h.1], fun k hk => by simp at hk; exact h.2.2.1 k (by omega) (by omega) (by omega), fun _ _ => by rw [h.2.1]⟩, fun r v _ hv => by
    unfold Reg at *
    rw [h.2.2.1 14 (by decide) (by decide) (by decide), h.2.2.1 15 (by decide) (by decide) (by decide), h.2.2.1 16 (by decide) (by decide) (by decide)]
    exact hv⟩
theorem kh.sv {L : List Nat} {σ σ' : mS} {c : mCf} (h : kh L σ σ') (h10 : 10 ∉ L) (hs : Sv σ c) : Sv σ' c := ⟨hs.1.on h.1 (by decide) (by decide) (by decide) (by decide) (by decide) (by decide) (by decide), hs.2.1.on h.1 (by decide) (by decide) (by decide), h.2 _ _ h10 hs.2.2⟩
theorem kh.rs {L : List Nat} {σ σ' : mS} {z : mT} (h : kh L σ σ') (h10 : 10 ∉ L) (hs : RS σ z) : RS σ' z :=
  ⟨hs.1.on h.1 (by decide) (by decide) (by decide) (by decide) (by decide) (by decide) (by decide), (h.1.1 22 (by decide)).trans hs.2.1,
   ⟨⟨(h.1.1 23 (by decide)).trans hs.2.2.1.1.1, fun e => (hs.2.2.1.1.2 e).eq (h.1.1 27 (by decide)) (h.1.2.1 28 (by decide))⟩, fun e => ⟨(hs.2.2.1.2 e).1.on h.1 (by decide) (by decide) (by decide), h.2 _ _ h10 (hs.2.2.1.2 e).2⟩⟩,
   hs.2.2.2.1.on h.1 (by decide) (by decide), hs.2.2.2.2.on h.1 (by decide) (by decide) (by decide) (by decide)⟩
theorem keeps.hel {L : List Nat} {σ σ' : mS} {c : Nat} {v : Int} (h : keeps L σ σ') (hv : Hel σ c v) : Hel σ' c v := hv.eq (h.2.2.1 35 (by decide) (by decide) (by decide)) (h.2.2.1 36 (by decide) (by decide) (by decide)) (h.2.2.1 37 (by decide) (by decide) (by decide))
def vK (c : mCf) (q : Nat × Nat × Nat) (k : Nat) : Int := vOf c q (k / 5) (k % 5)
/-- the values of a row fit into what is held -/
def valOk (c : mCf) : Prop := ∀ q lm lp, okRow c q → lm < c.m → lp ≤ 4 → (vOf c q lm lp).natAbs < B9 ^ 24
def arP (c : mCf) (q : Nat × Nat × Nat) (τ : Int) : Nat → Int × Int
  | 0 => (0, 1)
  | k + 1 => if k % 5 < 4 then pieceP (arP c q τ k) (τ * vK c q k) (τ * vK c q (k + 1)) (c.L (k / 5) : Int) else arP c q τ k
def arW (c : mCf) (q : Nat × Nat × Nat) (τ : Int) : Int := (((arP c q τ (5 * c.m - 1)).2 * ((8 * overP c q.1 q.2.1 : Nat) : Int) * solD c).natAbs : Nat)
def spArea (z : mT) (r a q : Int) : Int64 := if isRw z r = true ∧ (a = 1 ∨ a = -1) ∧ -1 ≤ q then
    tellv q (redP (arP z.1 (rowAt z.2.2 r.toNat) (a * (solD z.1).sign) (5 * z.1.m - 1)).1 (arW z.1 (rowAt z.2.2 r.toNat) (a * (solD z.1).sign))) (redQ (arP z.1 (rowAt z.2.2 r.toNat) (a * (solD z.1).sign) (5 * z.1.m - 1)).1 (arW z.1 (rowAt z.2.2 r.toNat) (a * (solD z.1).sign)))
  else iL (refP q)
theorem tau_abs {τ v : Int} (h : τ = 1 ∨ τ = -1) : (τ * v).natAbs = v.natAbs := by
  rcases h with e | e <;> rw [e] <;> omega
theorem arP_acc {c : mCf} (hc : okCf c) (hv : valOk c) {q : Nat × Nat × Nat} (hq : okRow c q) {τ : Int} (hτ : τ = 1 ∨ τ = -1) : ∀ k, k + 1 ≤ 5 * c.m → acc (arP c q τ k) (k - k / 5)
  | 0, _ => ⟨by show (0 : Nat) < _; exact Nat.pow_pos (by decide), by show (1 : Nat) < B9 ^ 1; decide, by show (1 : Int) ≠ 0; decide⟩
  | k + 1, hk => by
    have ih := arP_acc hc hv hq hτ k (by omega)
    unfold arP
    have hm3 := hc.2.1
    split
    · have e : k + 1 - (k + 1) / 5 = k - k / 5 + 1 := by omega
      rw [e]
      refine ih.up ?_ ?_ ?_
      · rw [tau_abs hτ]; exact hv q _ _ hq (by omega) (by omega)
      · rw [tau_abs hτ]; exact hv q _ _ hq (by omega) (by omega)
      · rw [Int.natAbs_natCast, Nat.pow_one]
        exact Nat.lt_of_le_of_lt (hc.2.2.1 (k / 5) (by omega)).2 (by decide)
    · have e : k + 1 - (k + 1) / 5 = k - k / 5 := by omega
      rw [e]; exact ih
set_option maxRecDepth 100000 in
set_option maxHeartbeats 4000000 in
theorem c_area_1 (G : xG) (l : Launch) (o : Nat) (as : Nat → Nat) (M0 : xM) (N S : Nat) (d : Nat) (σ : mS) (c : mCf) (hs : Sv σ c) (hvo : valOk c) (rs : List (Nat × Nat × Nat)) (hr : Rws σ c rs) (r : Nat) (hrl : r < rs.length) (a q : Int) (Q : xPost)
    (hx : ∀ σ' M, kh [0, 2, 3] σ σ' → (∀ j, j < 5 * c.m → Hel σ' j (vK c (rowAt rs r) j)) → mAt o as σ' M0 M → xX G l YX9_area (d + 6) Q 73 [(0, .ref o), (1, .int (nI r)), (2, .int (iI a)), (3, .int (iI q)), (4, .int (nI (5 * c.m)))] [] M N S) :
    ∀ (u k : Nat), k + u = 5 * c.m → ∀ σ' M, kh [0, 2, 3] σ σ' → (∀ j, j < k → Hel σ' j (vK c (rowAt rs r) j)) → mAt o as σ' M0 M → xX G l YX9_area (d + 6) Q 36 [(0, .ref o), (1, .int (nI r)), (2, .int (iI a)), (3, .int (iI q)), (4, .int (nI k))] [] M N S := by
  have hm3 := hs.1.1.2.1
  have hokr : okRow c (rowAt rs r) := (hr.2.2 r hrl).2.2.2
  intro u
  induction u with
  | zero =>
    intro k hk σ' M hkp hH hM
    obtain rfl : k = 5 * c.m := by omega
    have h3 : σ'.1 3 = nI c.m := by rw [hkp.1.1 3 (by decide)]; exact hs.1.2.1
    refine x_iload (q := 38) dX9_area_36 rfl rfl ?_
    refine xn_iconst (q := 39) 5 dX9_area_38 rfl (by decide) ?_
    refine x_aload_n (q := 40) dX9_area_39 rfl rfl ?_
    refine m_get (q := 43) hM 3 fwX9_93 (by decide) dX9_area_40 rfl rfl ?_
    rw [h3]
    refine xn_imul (q := 44) dX9_area_43 rfl ?_
    refine xn_icmp_ge (q := 47) 73 dX9_area_44 (by decide) rfl (by omega) (by omega) (fun hc44 => ?_) (fun hc44 => absurd hc44 (by omega))
    exact hx σ' M hkp hH hM
  | succ u ih =>
    intro k hk σ' M hkp hH hM
    have h3 : σ'.1 3 = nI c.m := by rw [hkp.1.1 3 (by decide)]; exact hs.1.2.1
    have hsv := hkp.sv (by decide) hs
    have hr' : Rws σ' c rs := hr.on hkp.1 (by decide) (by decide) (by decide) (by decide)
    refine x_iload (q := 38) dX9_area_36 rfl rfl ?_
    refine xn_iconst (q := 39) 5 dX9_area_38 rfl (by decide) ?_
    refine x_aload_n (q := 40) dX9_area_39 rfl rfl ?_
    refine m_get (q := 43) hM 3 fwX9_93 (by decide) dX9_area_40 rfl rfl ?_
    rw [h3]
    refine xn_imul (q := 44) dX9_area_43 rfl ?_
    refine xn_icmp_ge (q := 47) 73 dX9_area_44 (by decide) rfl (by omega) (by omega) (fun hc44 => absurd hc44 (by omega)) (fun hc44 => ?_)
    refine x_aload_n (q := 48) dX9_area_47 rfl rfl ?_
    refine x_iload_n (q := 49) dX9_area_48 rfl rfl ?_
    refine x_iload (q := 51) dX9_area_49 rfl rfl ?_
    refine xn_iconst (q := 52) 5 dX9_area_51 rfl (by decide) ?_
    refine xn_idiv (q := 53) dX9_area_52 rfl (by omega) (by omega) (by omega) ?_
    refine x_iload (q := 55) dX9_area_53 rfl rfl ?_
    refine xn_iconst (q := 56) 5 dX9_area_55 rfl (by decide) ?_
    refine xn_irem (q := 57) dX9_area_56 rfl (by omega) (by omega) (by omega) ?_
    refine m_call (q := 60) (As := [_, _, _]) hM imX9_valueOf ivX9_valueOf ilX9_valueOf mwX9_321 xciX9 dX9_area_57 rfl rfl rfl (Nat.le_of_ble_eq_true rfl) ?_
    refine (c_valueOf G l o as M0 N S d σ' c hsv rs hr' r (k / 5) (k % 5) hrl (by omega) (by omega)).mono (fun x9 σ5 hp => ?_)
    obtain ⟨rfl, k5, r5, b5⟩ := hp
    intro M hM
    show xX G l _ (d + 6) _ _ _ _ M N S
    refine x_aload_n (q := 61) dX9_area_60 rfl rfl ?_
    refine x_iload (q := 63) dX9_area_61 rfl rfl ?_
    refine xn_iconst (q := 64) 0 dX9_area_63 rfl (by decide) ?_
    refine m_call (q := 67) (As := [_, _]) hM imX9_hold ivX9_hold ilX9_hold mwX9_336 xciX9 dX9_area_64 rfl rfl rfl (Nat.le_of_ble_eq_true rfl) ?_
    refine (c_hold G l o as M0 N S (d + 5) 0 k (by decide) (by omega) σ5 _ r5 (hvo _ _ _ hokr (by omega) (by omega))).mono (fun x9 σ6 hp => ?_)
    obtain ⟨rfl, k6, r6⟩ := hp
    intro M hM
    show xX G l _ (d + 6) _ _ _ _ M N S
    refine xn_iinc (q := 70) (ls' := [(0, _), (1, _), (2, _), (3, _), (4, _)]) [1, 2, 3, 4, 0] 1 dX9_area_67 rfl rfl (by decide) (by decide) rfl ?_
    refine x_goto 36 dX9_area_70 (by decide) ?_
    refine ih (k + 1) (by omega) σ6 M (hkp.trans (k5.kh.trans k6.kh)) (fun j hj => ?_) hM
    by_cases e : j = k
    · subst e; exact r6
    · exact k6.num e (k5.hel (hH j (by omega)))
set_option maxRecDepth 100000 in
set_option maxHeartbeats 4000000 in
theorem c_area_2 (G : xG) (l : Launch) (o : Nat) (as : Nat → Nat) (M0 : xM) (N S : Nat) (d : Nat) (σ : mS) (c : mCf) (hc : Cf σ c) (hvo : valOk c) (rw0 : Nat × Nat × Nat) (hokr : okRow c rw0) (τ : Int) (hτ : τ = 1 ∨ τ = -1) (hH : ∀ j, j < 5 * c.m → Hel σ j (vK c rw0 j)) (r : Nat) (a q : Int) (Q : xPost)
    (hx : ∀ σ' M, keeps [0, 1, 2, 3, 5, 6, 7, 8, 11, 12, 13, 14, 15] σ σ' → Reg σ' 7 (arP c rw0 τ (5 * c.m - 1)).1 → Reg σ' 8 (arP c rw0 τ (5 * c.m - 1)).2 → mAt o as σ' M0 M → xX G l YX9_area (d + 6) Q 163 [(0, .ref o), (1, .int (nI r)), (2, .int (iI a)), (3, .int (iI q)), (4, .int (iI τ)), (5, .int (nI (5 * c.m - 1)))] [] M N S) :
    ∀ (u k : Nat), k + u = 5 * c.m - 1 → ∀ σ' M, keeps [0, 1, 2, 3, 5, 6, 7, 8, 11, 12, 13, 14, 15] σ σ' → Reg σ' 7 (arP c rw0 τ k).1 → Reg σ' 8 (arP c rw0 τ k).2 → mAt o as σ' M0 M → xX G l YX9_area (d + 6) Q 101 [(0, .ref o), (1, .int (nI r)), (2, .int (iI a)), (3, .int (iI q)), (4, .int (iI τ)), (5, .int (nI k))] [] M N S := by
  have hm3 := hc.1.2.1
  have hm1 := hc.1.1
  intro u
  induction u with
  | zero =>
    intro k hk σ' M hkp h7 h8 hM
    obtain rfl : k = 5 * c.m - 1 := by omega
    have h3 : σ'.1 3 = nI c.m := by rw [hkp.1]; exact hc.2.1
    refine x_iload (q := 103) dX9_area_101 rfl rfl ?_
    refine xn_iconst (q := 104) 1 dX9_area_103 rfl (by decide) ?_
    refine xn_iadd (q := 105) dX9_area_104 rfl ?_
    refine xn_iconst (q := 106) 5 dX9_area_105 rfl (by decide) ?_
    refine x_aload_n (q := 107) dX9_area_106 rfl rfl ?_
    refine m_get (q := 110) hM 3 fwX9_93 (by decide) dX9_area_107 rfl rfl ?_
    rw [h3]
    refine xn_imul (q := 111) dX9_area_110 rfl ?_
    refine xn_icmp_ge (q := 114) 163 dX9_area_111 (by decide) rfl (by omega) (by omega) (fun hc111 => ?_) (fun hc111 => absurd hc111 (by omega))
    exact hx σ' M hkp h7 h8 hM
  | succ u ih =>
    intro k hk σ' M hkp h7 h8 hM
    have h3 : σ'.1 3 = nI c.m := by rw [hkp.1]; exact hc.2.1
    have hacc := arP_acc hc.1 hvo hokr hτ k (by omega)
    have ih := ih (k + 1) (by omega)
    unfold arP at ih
    have hL := (hc.1.2.2.1 (k / 5) (by omega)).2
    have hx5 : (τ * vK c rw0 k).natAbs < B9 ^ 24 := by rw [tau_abs hτ]; exact hvo _ _ _ hokr (by omega) (by omega)
    have hy6 : (τ * vK c rw0 (k + 1)).natAbs < B9 ^ 24 := by rw [tau_abs hτ]; exact hvo _ _ _ hokr (by omega) (by omega)
    refine x_iload (q := 103) dX9_area_101 rfl rfl ?_
    refine xn_iconst (q := 104) 1 dX9_area_103 rfl (by decide) ?_
    refine xn_iadd (q := 105) dX9_area_104 rfl ?_
    refine xn_iconst (q := 106) 5 dX9_area_105 rfl (by decide) ?_
    refine x_aload_n (q := 107) dX9_area_106 rfl rfl ?_
    refine m_get (q := 110) hM 3 fwX9_93 (by decide) dX9_area_107 rfl rfl ?_
    rw [h3]
    refine xn_imul (q := 111) dX9_area_110 rfl ?_
    refine xn_icmp_ge (q := 114) 163 dX9_area_111 (by decide) rfl (by omega) (by omega) (fun hc111 => absurd hc111 (by omega)) (fun hc111 => ?_)
    refine x_iload (q := 116) dX9_area_114 rfl rfl ?_
    refine xn_iconst (q := 117) 5 dX9_area_116 rfl (by decide) ?_
    refine xn_irem (q := 118) dX9_area_117 rfl (by omega) (by omega) (by omega) ?_
    refine xn_iconst (q := 119) 4 dX9_area_118 rfl (by decide) ?_
    refine xn_icmp_ge (q := 122) 157 dX9_area_119 (by decide) rfl (by omega) (by omega) (fun hc119 => ?_) (fun hc119 => ?_)
    · refine xn_iinc (q := 160) (ls' := [(0, _), (1, _), (2, _), (3, _), (4, _), (5, _)]) [1, 2, 3, 4, 5, 0] 1 dX9_area_157 rfl rfl (by decide) (by decide) rfl ?_
      refine x_goto 101 dX9_area_160 (by decide) ?_
      rw [if_neg (by omega)] at ih; exact ih σ' M hkp h7 h8 hM
    · refine x_aload_n (q := 123) dX9_area_122 rfl rfl ?_
      refine x_iload (q := 125) dX9_area_123 rfl rfl ?_
      refine xn_iconst (q := 126) 5 dX9_area_125 rfl (by decide) ?_
      refine x_iload (q := 128) dX9_area_126 rfl rfl ?_
      refine m_call (q := 131) (As := [_, _, _]) hM imX9_take ivX9_take ilX9_take mwX9_339 xciX9 dX9_area_128 rfl rfl rfl (Nat.le_of_ble_eq_true rfl) ?_
      refine (c_take G l o as M0 N S (d + 5) k 5 _ τ hτ rfl (by omega) (by decide) σ' _ (hkp.hel (hH k (by omega)))).mono (fun x9 σ5 hp => ?_)
      obtain ⟨rfl, k5, r5⟩ := hp
      intro M hM
      show xX G l _ (d + 6) _ _ _ _ M N S
      refine x_aload_n (q := 132) dX9_area_131 rfl rfl ?_
      refine x_iload (q := 134) dX9_area_132 rfl rfl ?_
      refine xn_iconst (q := 135) 1 dX9_area_134 rfl (by decide) ?_
      refine xn_iadd (q := 136) dX9_area_135 rfl ?_
      refine xn_bipush (q := 138) 6 dX9_area_136 rfl (by decide) ?_
      refine x_iload (q := 140) dX9_area_138 rfl rfl ?_
      refine m_call (q := 143) (As := [_, _, _]) hM imX9_take ivX9_take ilX9_take mwX9_339 xciX9 dX9_area_140 rfl rfl rfl (Nat.le_of_ble_eq_true rfl) ?_
      refine (c_take G l o as M0 N S (d + 5) (k + 1) 6 _ τ hτ rfl (by omega) (by decide) σ5 _ (keeps.hel (k5.s (L := [5]) (by simp)) (hkp.hel (hH (k + 1) (by omega))))).mono (fun x9 σ6 hp => ?_)
      obtain ⟨rfl, k6, r6⟩ := hp
      intro M hM
      show xX G l _ (d + 6) _ _ _ _ M N S
      refine x_aload_n (q := 144) dX9_area_143 rfl rfl ?_
      refine x_aload_n (q := 145) dX9_area_144 rfl rfl ?_
      refine m_get (q := 148) hM 4 fwX9_13 (by decide) dX9_area_145 rfl rfl ?_
      refine x_iload (q := 150) dX9_area_148 rfl rfl ?_
      refine xn_iconst (q := 151) 5 dX9_area_150 rfl (by decide) ?_
      refine xn_idiv (q := 152) dX9_area_151 rfl (by omega) (by omega) (by omega) ?_
      refine m_iald (q := 153) hM (n := 3) (by decide) dX9_area_152 rfl (by omega) ?_
      rw [show σ6.2.1 4 (k / 5) = nI (c.L (k / 5)) by rw [k6.2.2.1 4 (by decide) (by decide) (by decide), k5.2.2.1 4 (by decide) (by decide) (by decide), hkp.2.2.1 4 (by decide) (by decide) (by decide)]; exact hc.2.2.1 _ (by omega)]
      refine xn_i2l (q := 154) dX9_area_153 rfl (by omega) ?_
      refine m_call (q := 157) (As := [_]) hM imX9_piece ivX9_piece ilX9_piece mwX9_342 xciX9 dX9_area_154 rfl rfl rfl (Nat.le_of_ble_eq_true rfl) ?_
      refine (c_piece G l o as M0 N S d σ6 (arP c rw0 τ k) _ _ (c.L (k / 5) : Int) (c.L (k / 5)) rfl hL (k - k / 5) (by omega) hacc (k6.reg (by decide) (k5.reg (by decide) h7)) (k6.reg (by decide) (k5.reg (by decide) h8)) (k6.reg (by decide) r5) r6 hx5 hy6).mono (fun x9 σ7 hp => ?_)
      obtain ⟨rfl, k7, r7, r78⟩ := hp
      intro M hM
      show xX G l _ (d + 6) _ _ _ _ M N S
      refine xn_iinc (q := 160) (ls' := [(0, _), (1, _), (2, _), (3, _), (4, _), (5, _)]) [1, 2, 3, 4, 5, 0] 1 dX9_area_157 rfl rfl (by decide) (by decide) rfl ?_
      refine x_goto 101 dX9_area_160 (by decide) ?_
      rw [if_pos hc119] at ih; exact ih σ7 M (hkp.trans ((k5.s (by simp)).trans ((k6.s (by simp)).trans (k7.mono (by intro r hr; simp at hr ⊢; omega))))) r7 r78 hM
set_option maxRecDepth 100000 in
set_option maxHeartbeats 4000000 in
theorem c_area (G : xG) (l : Launch) (o : Nat) (as : Nat → Nat) (M0 : xM) (N S : Nat) (d : Nat) (σ : mS) (z : mT) (hR : RR σ z) (hok : slvOk z.1) (hvo : looseB z.1 = false → valOk z.1) (r a q : Int) (hr1 : -2147483648 ≤ r) (hr2 : r < 2147483648) (ha1 : -2147483648 ≤ a) (ha2 : a < 2147483648) (hq1 : -2147483648 ≤ q) (hq2 : q < 2147483648) : mC G l o as M0 N S YX9_area (d + 7) [.int (iI r), .int (iI a), .int (iI q)] σ (fun x σ' => x = some (.long (spArea z r a q)) ∧ RR σ' z) := by
  refine mC.of (ls := [(0, .ref o), (1, .int (iI r)), (2, .int (iI a)), (3, .int (iI q))]) (by decide) (Nat.le_of_ble_eq_true rfl) rfl fun M hM => ?_
  refine x_aload_n (q := 1) dX9_area_0 rfl rfl ?_
  refine xn_iconst (q := 2) 0 dX9_area_1 rfl (by decide) ?_
  refine m_putG (q := 5) hM 0 fwX9_97 (by decide) rfl rfl rfl dX9_area_2 rfl rfl rfl (fun M σ2 a2 e2 b2 hM => ?_)
  refine x_aload_n (q := 6) dX9_area_5 rfl rfl ?_
  refine x_iload_n (q := 7) dX9_area_6 rfl rfl ?_
  refine m_call (q := 10) (As := [_]) hM imX9_isRow ivX9_isRow ilX9_isRow mwX9_310 xciX9 dX9_area_7 rfl rfl rfl (Nat.le_of_ble_eq_true rfl) ?_
  refine (c_isRow G l o as M0 N S d σ2 z (hR.code a2 b2) hok r hr1 hr2).mono (fun x9 σ9 hp => ?_)
  obtain ⟨rfl, r9⟩ := hp
  intro M hM
  show xX G l _ (d + 7) _ _ _ _ M N S
  refine x_if_eq (q := 13) 28 dX9_area_10 (by decide) rfl (fun hc10 => ?_) (fun hc10 => ?_)
  · refine x_iload_n (q := 29) dX9_area_28 rfl rfl ?_
    refine x_callS (q := 32) (As := [_]) imX9_refused isX9_refused mwX9_317 dX9_area_29 rfl rfl rfl (Nat.le_of_ble_eq_true rfl) ?_
    refine c_refused G l _ M N S q hq1 hq2 _ ?_
    show xX G l _ (d + 7) _ _ _ _ M N S
    exact x_lret rfl dX9_area_32 (m_ret hM ⟨by rw [show spArea z r a q = iL (refP q) from if_neg (fun h => by rw [bI_eq.mp hc10] at h; exact absurd h.1 (by decide))], r9.rr⟩)
  · refine x_iload_n (q := 14) dX9_area_13 rfl rfl ?_
    refine xn_iconst (q := 15) 1 dX9_area_14 rfl (by decide) ?_
    refine xi_icmp_eq (q := 18) 23 dX9_area_15 (by decide) rfl rfl (nI_i _) (by omega) (by omega) (by omega) (by omega) (fun hc15 => ?_) (fun hc15 => ?_)
    · refine x_iload_n (q := 24) dX9_area_23 rfl rfl ?_
      refine x_iconst (q := 25) (iI (-1)) dX9_area_24 rfl (by decide) ?_
      refine xi_icmp_ge (q := 28) 33 dX9_area_25 (by decide) rfl rfl rfl (by omega) (by omega) (by omega) (by omega) (fun hc25 => ?_) (fun hc25 => ?_)
      · have hir := bI_ne.mp hc10
        obtain ⟨i1, i2, i3, i4⟩ := of_decide_eq_true hir
        have hsv := r9.sv i3
        have hD := hsv.wD
        have hD0 : solD z.1 ≠ 0 := gjS_ne (hok.2 i3) _ (Nat.le_refl _)
        have hrow := r9.2.2.2.2.2.2 r.toNat (by omega)
        have h8 := r9.2.2.2.2.1
        have hokr : okRow z.1 (rowAt z.2.2 r.toNat) := hrow.2.2.2
        have hvo := hvo i3
        have hm1 := hsv.1.1.1
        have hm3 := hsv.1.1.2.1
        have hov := overP_le hsv.1.1 (w := (rowAt z.2.2 r.toNat).1) (m := (rowAt z.2.2 r.toNat).2.1) (fun e => by unfold okRow at hokr; omega)
        have er : iI r = nI r.toNat := by rw [nI_i r.toNat]; exact congrArg iI (by omega)
        rw [er]
        have ha : a = 1 ∨ a = -1 := by omega
        rw [show spArea z r a q = _ from if_pos (show isRw z r = true ∧ (a = 1 ∨ a = -1) ∧ -1 ≤ q from ⟨hir, ha, by omega⟩)]
        have hτ : a * (solD z.1).sign = 1 ∨ a * (solD z.1).sign = -1 := by rcases ha with e | e <;> rcases Int.lt_trichotomy (solD z.1) 0 with g | g | g <;> first | exact absurd g hD0 | (rw [e, Int.sign_eq_neg_one_of_neg g]; decide) | (rw [e, Int.sign_eq_one_of_pos g]; decide)
        have har := arP_acc hsv.1.1 hvo hokr hτ (5 * z.1.m - 1) (by omega)
        refine xn_iconst (q := 34) 0 dX9_area_33 rfl (by decide) ?_
        refine x_istore (q := 36) (ls' := [(0, _), (1, _), (2, _), (3, _), (4, _)]) [1, 2, 3, 4, 0] dX9_area_34 rfl (by decide) rfl ?_
        refine c_area_1 G l o as M0 N S (d + 1) σ9 z.1 hsv hvo z.2.2 r9.2.2.2.2 r.toNat (by omega) a q _ (fun σA M kA hH hM => ?_) (5 * z.1.m) 0 (Nat.zero_add _) σ9 M kh.rfl' (fun j hj => absurd hj (Nat.not_lt_zero _)) hM
        have hsA := kA.sv (by decide) hsv
        have g10 : σA.2.1 16 10 = iI (solD z.1).sign := (hsA.2.2.choose_spec.2.2.2.1).trans (sg_iI _)
        refine x_iload_n (q := 74) dX9_area_73 rfl rfl ?_
        refine x_aload_n (q := 75) dX9_area_74 rfl rfl ?_
        refine m_get (q := 78) hM 16 fwX9_47 (by decide) dX9_area_75 rfl rfl ?_
        refine xn_bipush (q := 80) 10 dX9_area_78 rfl (by decide) ?_
        refine m_iald (q := 81) hM (n := 16) (by decide) dX9_area_80 rfl (by omega) ?_
        rw [g10]
        refine xi_imul (q := 82) dX9_area_81 rfl rfl rfl ?_
        refine x_istore (q := 84) (ls' := [(0, _), (1, _), (2, _), (3, _), (4, _)]) [1, 2, 3, 4, 0] dX9_area_82 rfl (by decide) rfl ?_
        refine x_aload_n (q := 85) dX9_area_84 rfl rfl ?_
        refine xn_bipush (q := 87) 7 dX9_area_85 rfl (by decide) ?_
        refine xn_lconst (q := 88) 0 dX9_area_87 rfl (by decide) ?_
        refine m_call (q := 91) (As := [_, _]) hM imX9_put ivX9_put ilX9_put mwX9_121 xciX9 dX9_area_88 rfl rfl rfl (Nat.le_of_ble_eq_true rfl) ?_
        refine (c_put G l o as M0 N S (d + 6) 7 (by decide) (lN 0) 0 rfl (by decide) σA).mono (fun x9 σB hp => ?_)
        obtain ⟨rfl, kB, rB⟩ := hp
        intro M hM
        show xX G l _ (d + 7) _ _ _ _ M N S
        refine x_aload_n (q := 92) dX9_area_91 rfl rfl ?_
        refine xn_bipush (q := 94) 8 dX9_area_92 rfl (by decide) ?_
        refine xn_lconst (q := 95) 1 dX9_area_94 rfl (by decide) ?_
        refine m_call (q := 98) (As := [_, _]) hM imX9_put ivX9_put ilX9_put mwX9_121 xciX9 dX9_area_95 rfl rfl rfl (Nat.le_of_ble_eq_true rfl) ?_
        refine (c_put G l o as M0 N S (d + 6) 8 (by decide) (lN 1) 1 rfl (by decide) σB).mono (fun x9 σC hp => ?_)
        obtain ⟨rfl, kC, rC⟩ := hp
        intro M hM
        show xX G l _ (d + 7) _ _ _ _ M N S
        refine xn_iconst (q := 99) 0 dX9_area_98 rfl (by decide) ?_
        refine x_istore (q := 101) (ls' := [(0, _), (1, _), (2, _), (3, _), (4, _), (5, _)]) [1, 2, 3, 4, 5, 0] dX9_area_99 rfl (by decide) rfl ?_
        have kBC : keeps [0, 1, 2, 3, 5, 6, 7, 8, 11, 12, 13, 14, 15] σA σC := (kB.s (by simp)).trans (kC.s (by simp))
        refine c_area_2 G l o as M0 N S (d + 1) σC z.1 (hsA.keeps kBC (by decide)).1 hvo (rowAt z.2.2 r.toNat) hokr _ hτ (fun j hj => kBC.hel (hH j hj)) r.toNat a q _ (fun σE M kE r7 r8 hM => ?_) (5 * z.1.m - 1) 0 (Nat.zero_add _) σC M keeps.rfl' (kC.reg (by decide) rB) rC hM
        have kAE := kBC.trans kE
        have hsE := hsA.keeps kAE (by decide)
        refine x_aload_n (q := 164) dX9_area_163 rfl rfl ?_
        refine xn_bipush (q := 166) 7 dX9_area_164 rfl (by decide) ?_
        refine xn_iconst (q := 167) 0 dX9_area_166 rfl (by decide) ?_
        refine m_call (q := 170) (As := [_, _]) hM imX9_copy ivX9_copy ilX9_copy mwX9_107 xciX9 dX9_area_167 rfl rfl rfl (Nat.le_of_ble_eq_true rfl) ?_
        refine (c_copy G l o as M0 N S (d + 6) 7 0 (by decide) (by decide) (by decide) σE _ r7).mono (fun x9 σ1 hp => ?_)
        obtain ⟨rfl, k1, r1⟩ := hp
        intro M hM
        show xX G l _ (d + 7) _ _ _ _ M N S
        refine x_aload_n (q := 171) dX9_area_170 rfl rfl ?_
        refine xn_bipush (q := 173) 8 dX9_area_171 rfl (by decide) ?_
        refine xn_iconst (q := 174) 2 dX9_area_173 rfl (by decide) ?_
        refine m_call (q := 177) (As := [_, _]) hM imX9_copy ivX9_copy ilX9_copy mwX9_107 xciX9 dX9_area_174 rfl rfl rfl (Nat.le_of_ble_eq_true rfl) ?_
        refine (c_copy G l o as M0 N S (d + 6) 8 2 (by decide) (by decide) (by decide) σ1 _ (k1.reg (by decide) r8)).mono (fun x9 σ3 hp => ?_)
        obtain ⟨rfl, k3, r3⟩ := hp
        intro M hM
        show xX G l _ (d + 7) _ _ _ _ M N S
        have k13 : keeps [0, 1, 2, 3, 5, 6, 7, 8, 11, 12, 13, 14, 15] σE σ3 := (k1.s (by simp)).trans (k3.s (by simp))
        have hs3 := hsE.keeps k13 (by decide)
        have kA3 := kAE.trans k13
        refine x_aload_n (q := 178) dX9_area_177 rfl rfl ?_
        refine xn_iconst (q := 179) 2 dX9_area_178 rfl (by decide) ?_
        refine xn_ldc2 (q := 182) 8 dX9_area_179 rfl cwX9_345 ?_
        refine x_aload_n (q := 183) dX9_area_182 rfl rfl ?_
        refine x_aload_n (q := 184) dX9_area_183 rfl rfl ?_
        refine m_get (q := 187) hM 11 fwX9_32 (by decide) dX9_area_184 rfl rfl ?_
        refine x_iload_n (q := 188) dX9_area_187 rfl rfl ?_
        refine m_iald (q := 189) hM (n := 8) (by decide) dX9_area_188 rfl (by omega) ?_
        rw [show σ3.2.1 11 r.toNat = nI (rowAt z.2.2 r.toNat).1 by rw [kA3.2.2.1 11 (by decide) (by decide) (by decide), kA.1.2.1 11 (by decide)]; exact hrow.1]
        refine x_aload_n (q := 190) dX9_area_189 rfl rfl ?_
        refine m_get (q := 193) hM 12 fwX9_35 (by decide) dX9_area_190 rfl rfl ?_
        refine x_iload_n (q := 194) dX9_area_193 rfl rfl ?_
        refine m_iald (q := 195) hM (n := 8) (by decide) dX9_area_194 rfl (by omega) ?_
        rw [show σ3.2.1 12 r.toNat = nI (rowAt z.2.2 r.toNat).2.1 by rw [kA3.2.2.1 12 (by decide) (by decide) (by decide), kA.1.2.1 12 (by decide)]; exact hrow.2.1]
        refine m_call (q := 198) (As := [_, _]) hM imX9_over ivX9_over ilX9_over mwX9_324 xciX9 dX9_area_195 rfl rfl rfl (Nat.le_of_ble_eq_true rfl) ?_
        refine (c_over G l o as M0 N S (d + 6) σ3 z.1 hs3.1 _ _ (by unfold okRow at hokr; omega) (fun e => by unfold okRow at hokr; omega)).mono (fun x9 σ9' hp => ?_)
        obtain ⟨rfl, e9⟩ := hp
        intro M hM
        rw [e9] at hM; clear e9 σ9'
        show xX G l _ (d + 7) _ _ _ _ M N S
        refine xn_lmul (q := 199) dX9_area_198 rfl ?_
        refine m_call (q := 202) (As := [_, _]) hM imX9_multiplySmall ivX9_multiplySmall ilX9_multiplySmall mwX9_129 xciX9 dX9_area_199 rfl rfl rfl (Nat.le_of_ble_eq_true rfl) ?_
        have ov8 : ((8 * overP z.1 (rowAt z.2.2 r.toNat).1 (rowAt z.2.2 r.toNat).2.1 : Nat) : Int).natAbs < B9 ^ 1 := by rw [Int.natAbs_natCast, Nat.pow_one]; exact Nat.lt_of_le_of_lt (show _ ≤ 36864 by omega) (by decide)
        refine (c_multiplySmall G l o as M0 N S (d + 5) 2 (by decide) _ _ (lN_t (by omega)) (by omega) σ3 _ r3 (B9up har.2.1 (by omega))).mono (fun x9 σ4 hp => ?_)
        obtain ⟨rfl, k4, r4⟩ := hp
        intro M hM
        show xX G l _ (d + 7) _ _ _ _ M N S
        refine x_aload_n (q := 203) dX9_area_202 rfl rfl ?_
        refine xn_iconst (q := 204) 2 dX9_area_203 rfl (by decide) ?_
        refine xn_bipush (q := 206) 10 dX9_area_204 rfl (by decide) ?_
        refine xn_iconst (q := 207) 1 dX9_area_206 rfl (by decide) ?_
        refine m_call (q := 210) (As := [_, _, _]) hM imX9_multiply ivX9_multiply ilX9_multiply mwX9_198 xciX9 dX9_area_207 rfl rfl rfl (Nat.le_of_ble_eq_true rfl) ?_
        refine (c_multiply G l o as M0 N S (d + 5) 2 10 1 (by decide) (by decide) (by decide) (by decide) (by decide) σ4 _ _ 340 24 r4 (k4.reg (by decide) hs3.2.2) (B9up (B9m har.2.1 ov8) (by omega)) hD (by decide)).mono (fun x9 σ6 hp => ?_)
        obtain ⟨rfl, k6, r6⟩ := hp
        intro M hM
        show xX G l _ (d + 7) _ _ _ _ M N S
        have hne : (arP z.1 (rowAt z.2.2 r.toNat) (a * (solD z.1).sign) (5 * z.1.m - 1)).2 * ((8 * overP z.1 (rowAt z.2.2 r.toNat).1 (rowAt z.2.2 r.toNat).2.1 : Nat) : Int) * solD z.1 ≠ 0 := Int.mul_ne_zero (Int.mul_ne_zero har.2.2 (by omega)) hD0
        have hlt := B9m (B9up (B9m har.2.1 ov8) (show _ ≤ 340 by omega)) hD
        have r06 := k6.reg (by decide) (k4.reg (by decide) (k3.reg (by decide) r1))
        have hz6 : ∃ nn, 0 < nn ∧ nn ≤ 400 ∧ σ6.2.1 15 1 = nI nn := by
          obtain ⟨nn, n1, n2, n3, n4, n5⟩ := r6
          refine ⟨nn, ?_, n1, n3⟩
          rcases Nat.eq_zero_or_pos nn with e | e
          · rw [e] at n2; have := n2.1; rw [Nat.pow_zero] at this; exact absurd this (by omega)
          · exact e
        obtain ⟨nn, n1, n2, n3⟩ := hz6
        refine x_aload_n (q := 211) dX9_area_210 rfl rfl ?_
        refine m_get (q := 214) hM 16 fwX9_47 (by decide) dX9_area_211 rfl rfl ?_
        refine xn_iconst (q := 215) 1 dX9_area_214 rfl (by decide) ?_
        refine x_aload_n (q := 216) dX9_area_215 rfl rfl ?_
        refine m_get (q := 219) hM 15 fwX9_44 (by decide) dX9_area_216 rfl rfl ?_
        refine xn_iconst (q := 220) 1 dX9_area_219 rfl (by decide) ?_
        refine m_iald (q := 221) hM (n := 16) (by decide) dX9_area_220 rfl (by omega) ?_
        rw [n3]
        refine xn_if_ne (q := 224) 228 dX9_area_221 (by decide) rfl (by omega) (fun hc221 => ?_) (fun hc221 => absurd hc221 (by omega))
        refine xn_iconst (q := 229) 1 dX9_area_228 rfl (by decide) ?_
        refine m_sign (q := 230) hM dX9_area_229 rfl (by omega) (fun M σ229 k229 e229 f229 g229 hM => ?_)
        refine x_aload_n (q := 231) dX9_area_230 rfl rfl ?_
        refine m_call (q := 234) (As := []) hM imX9_reduce ivX9_reduce ilX9_reduce mwX9_327 xciX9 dX9_area_231 rfl rfl rfl (Nat.le_of_ble_eq_true rfl) ?_
        have r16 : Reg σ229 1 (arW z.1 (rowAt z.2.2 r.toNat) (a * (solD z.1).sign)) := r6.resign f229 g229 (by rw [e229]; unfold arW; rw [sg_pos (by omega)]; rfl) (by unfold arW; rw [Int.natAbs_natCast])
        have r09 := k229.reg (by decide) r06
        have haW : arW z.1 (rowAt z.2.2 r.toNat) (a * (solD z.1).sign) ≠ 0 := by unfold arW; omega
        have haW2 : (arW z.1 (rowAt z.2.2 r.toNat) (a * (solD z.1).sign)).natAbs < B9 ^ 397 := by unfold arW; rw [Int.natAbs_natCast]; exact B9up hlt (by decide)
        refine (c_reduce G l o as M0 N S (d + 3) σ229 _ _ r09 r16 haW (B9up har.1 (by omega)) haW2).mono (fun x9 σ8 hp => ?_)
        obtain ⟨rfl, k8, r80, r81⟩ := hp
        intro M hM
        show xX G l _ (d + 7) _ _ _ _ M N S
        have kF : kh [0, 1, 2, 3, 5, 6, 7, 8, 11, 12, 13, 14, 15] σ9 σ8 := (kA.mono (by intro r hr; simp at hr ⊢; omega)).trans (kA3.kh.trans ((keep.s (L := [0, 1, 2, 3, 5, 6, 7, 8, 11, 12, 13, 14, 15]) k4 (by simp)).kh.trans ((keep.s (L := [0, 1, 2, 3, 5, 6, 7, 8, 11, 12, 13, 14, 15]) k6 (by simp)).kh.trans ((keep.s (L := [0, 1, 2, 3, 5, 6, 7, 8, 11, 12, 13, 14, 15]) k229 (by simp)).kh.trans (k8.mono (by intro r hr; simp at hr ⊢; omega)).kh))))
        refine x_aload_n (q := 235) dX9_area_234 rfl rfl ?_
        refine x_iload_n (q := 236) dX9_area_235 rfl rfl ?_
        refine m_call (q := 239) (As := [_]) hM imX9_tell ivX9_tell ilX9_tell mwX9_330 xciX9 dX9_area_236 rfl rfl rfl (Nat.le_of_ble_eq_true rfl) ?_
        refine (c_tell G l o as M0 N S (d + 6) σ8 q (by omega) (by omega) _ _ r80 r81).mono (fun x9 σ9' hp => ?_)
        obtain ⟨rfl, e9⟩ := hp
        intro M hM
        rw [e9] at hM; clear e9 σ9'
        show xX G l _ (d + 7) _ _ _ _ M N S
        exact x_lret rfl dX9_area_239 (m_ret hM ⟨rfl, (kh.rs (L := [0, 1, 2, 3, 5, 6, 7, 8, 11, 12, 13, 14, 15]) kF (by decide) r9).rr⟩)
      · refine x_iload_n (q := 29) dX9_area_28 rfl rfl ?_
        refine x_callS (q := 32) (As := [_]) imX9_refused isX9_refused mwX9_317 dX9_area_29 rfl rfl rfl (Nat.le_of_ble_eq_true rfl) ?_
        refine c_refused G l _ M N S q hq1 hq2 _ ?_
        show xX G l _ (d + 7) _ _ _ _ M N S
        exact x_lret rfl dX9_area_32 (m_ret hM ⟨by rw [show spArea z r a q = iL (refP q) from if_neg (fun h => by omega)], r9.rr⟩)
    · refine x_iload_n (q := 19) dX9_area_18 rfl rfl ?_
      refine x_iconst (q := 20) (iI (-1)) dX9_area_19 rfl (by decide) ?_
      refine xi_icmp_ne (q := 23) 28 dX9_area_20 (by decide) rfl rfl rfl (by omega) (by omega) (by omega) (by omega) (fun hc20 => ?_) (fun hc20 => ?_)
      · refine x_iload_n (q := 29) dX9_area_28 rfl rfl ?_
        refine x_callS (q := 32) (As := [_]) imX9_refused isX9_refused mwX9_317 dX9_area_29 rfl rfl rfl (Nat.le_of_ble_eq_true rfl) ?_
        refine c_refused G l _ M N S q hq1 hq2 _ ?_
        show xX G l _ (d + 7) _ _ _ _ M N S
        exact x_lret rfl dX9_area_32 (m_ret hM ⟨by rw [show spArea z r a q = iL (refP q) from if_neg (fun h => by omega)], r9.rr⟩)
      · refine x_iload_n (q := 24) dX9_area_23 rfl rfl ?_
        refine x_iconst (q := 25) (iI (-1)) dX9_area_24 rfl (by decide) ?_
        refine xi_icmp_ge (q := 28) 33 dX9_area_25 (by decide) rfl rfl rfl (by omega) (by omega) (by omega) (by omega) (fun hc25 => ?_) (fun hc25 => ?_)
        · have hir := bI_ne.mp hc10
          obtain ⟨i1, i2, i3, i4⟩ := of_decide_eq_true hir
          have hsv := r9.sv i3
          have hD := hsv.wD
          have hD0 : solD z.1 ≠ 0 := gjS_ne (hok.2 i3) _ (Nat.le_refl _)
          have hrow := r9.2.2.2.2.2.2 r.toNat (by omega)
          have h8 := r9.2.2.2.2.1
          have hokr : okRow z.1 (rowAt z.2.2 r.toNat) := hrow.2.2.2
          have hvo := hvo i3
          have hm1 := hsv.1.1.1
          have hm3 := hsv.1.1.2.1
          have hov := overP_le hsv.1.1 (w := (rowAt z.2.2 r.toNat).1) (m := (rowAt z.2.2 r.toNat).2.1) (fun e => by unfold okRow at hokr; omega)
          have er : iI r = nI r.toNat := by rw [nI_i r.toNat]; exact congrArg iI (by omega)
          rw [er]
          have ha : a = 1 ∨ a = -1 := by omega
          rw [show spArea z r a q = _ from if_pos (show isRw z r = true ∧ (a = 1 ∨ a = -1) ∧ -1 ≤ q from ⟨hir, ha, by omega⟩)]
          have hτ : a * (solD z.1).sign = 1 ∨ a * (solD z.1).sign = -1 := by rcases ha with e | e <;> rcases Int.lt_trichotomy (solD z.1) 0 with g | g | g <;> first | exact absurd g hD0 | (rw [e, Int.sign_eq_neg_one_of_neg g]; decide) | (rw [e, Int.sign_eq_one_of_pos g]; decide)
          have har := arP_acc hsv.1.1 hvo hokr hτ (5 * z.1.m - 1) (by omega)
          refine xn_iconst (q := 34) 0 dX9_area_33 rfl (by decide) ?_
          refine x_istore (q := 36) (ls' := [(0, _), (1, _), (2, _), (3, _), (4, _)]) [1, 2, 3, 4, 0] dX9_area_34 rfl (by decide) rfl ?_
          refine c_area_1 G l o as M0 N S (d + 1) σ9 z.1 hsv hvo z.2.2 r9.2.2.2.2 r.toNat (by omega) a q _ (fun σA M kA hH hM => ?_) (5 * z.1.m) 0 (Nat.zero_add _) σ9 M kh.rfl' (fun j hj => absurd hj (Nat.not_lt_zero _)) hM
          have hsA := kA.sv (by decide) hsv
          have g10 : σA.2.1 16 10 = iI (solD z.1).sign := (hsA.2.2.choose_spec.2.2.2.1).trans (sg_iI _)
          refine x_iload_n (q := 74) dX9_area_73 rfl rfl ?_
          refine x_aload_n (q := 75) dX9_area_74 rfl rfl ?_
          refine m_get (q := 78) hM 16 fwX9_47 (by decide) dX9_area_75 rfl rfl ?_
          refine xn_bipush (q := 80) 10 dX9_area_78 rfl (by decide) ?_
          refine m_iald (q := 81) hM (n := 16) (by decide) dX9_area_80 rfl (by omega) ?_
          rw [g10]
          refine xi_imul (q := 82) dX9_area_81 rfl rfl rfl ?_
          refine x_istore (q := 84) (ls' := [(0, _), (1, _), (2, _), (3, _), (4, _)]) [1, 2, 3, 4, 0] dX9_area_82 rfl (by decide) rfl ?_
          refine x_aload_n (q := 85) dX9_area_84 rfl rfl ?_
          refine xn_bipush (q := 87) 7 dX9_area_85 rfl (by decide) ?_
          refine xn_lconst (q := 88) 0 dX9_area_87 rfl (by decide) ?_
          refine m_call (q := 91) (As := [_, _]) hM imX9_put ivX9_put ilX9_put mwX9_121 xciX9 dX9_area_88 rfl rfl rfl (Nat.le_of_ble_eq_true rfl) ?_
          refine (c_put G l o as M0 N S (d + 6) 7 (by decide) (lN 0) 0 rfl (by decide) σA).mono (fun x9 σB hp => ?_)
          obtain ⟨rfl, kB, rB⟩ := hp
          intro M hM
          show xX G l _ (d + 7) _ _ _ _ M N S
          refine x_aload_n (q := 92) dX9_area_91 rfl rfl ?_
          refine xn_bipush (q := 94) 8 dX9_area_92 rfl (by decide) ?_
          refine xn_lconst (q := 95) 1 dX9_area_94 rfl (by decide) ?_
          refine m_call (q := 98) (As := [_, _]) hM imX9_put ivX9_put ilX9_put mwX9_121 xciX9 dX9_area_95 rfl rfl rfl (Nat.le_of_ble_eq_true rfl) ?_
          refine (c_put G l o as M0 N S (d + 6) 8 (by decide) (lN 1) 1 rfl (by decide) σB).mono (fun x9 σC hp => ?_)
          obtain ⟨rfl, kC, rC⟩ := hp
          intro M hM
          show xX G l _ (d + 7) _ _ _ _ M N S
          refine xn_iconst (q := 99) 0 dX9_area_98 rfl (by decide) ?_
          refine x_istore (q := 101) (ls' := [(0, _), (1, _), (2, _), (3, _), (4, _), (5, _)]) [1, 2, 3, 4, 5, 0] dX9_area_99 rfl (by decide) rfl ?_
          have kBC : keeps [0, 1, 2, 3, 5, 6, 7, 8, 11, 12, 13, 14, 15] σA σC := (kB.s (by simp)).trans (kC.s (by simp))
          refine c_area_2 G l o as M0 N S (d + 1) σC z.1 (hsA.keeps kBC (by decide)).1 hvo (rowAt z.2.2 r.toNat) hokr _ hτ (fun j hj => kBC.hel (hH j hj)) r.toNat a q _ (fun σE M kE r7 r8 hM => ?_) (5 * z.1.m - 1) 0 (Nat.zero_add _) σC M keeps.rfl' (kC.reg (by decide) rB) rC hM
          have kAE := kBC.trans kE
          have hsE := hsA.keeps kAE (by decide)
          refine x_aload_n (q := 164) dX9_area_163 rfl rfl ?_
          refine xn_bipush (q := 166) 7 dX9_area_164 rfl (by decide) ?_
          refine xn_iconst (q := 167) 0 dX9_area_166 rfl (by decide) ?_
          refine m_call (q := 170) (As := [_, _]) hM imX9_copy ivX9_copy ilX9_copy mwX9_107 xciX9 dX9_area_167 rfl rfl rfl (Nat.le_of_ble_eq_true rfl) ?_
          refine (c_copy G l o as M0 N S (d + 6) 7 0 (by decide) (by decide) (by decide) σE _ r7).mono (fun x9 σ1 hp => ?_)
          obtain ⟨rfl, k1, r1⟩ := hp
          intro M hM
          show xX G l _ (d + 7) _ _ _ _ M N S
          refine x_aload_n (q := 171) dX9_area_170 rfl rfl ?_
          refine xn_bipush (q := 173) 8 dX9_area_171 rfl (by decide) ?_
          refine xn_iconst (q := 174) 2 dX9_area_173 rfl (by decide) ?_
          refine m_call (q := 177) (As := [_, _]) hM imX9_copy ivX9_copy ilX9_copy mwX9_107 xciX9 dX9_area_174 rfl rfl rfl (Nat.le_of_ble_eq_true rfl) ?_
          refine (c_copy G l o as M0 N S (d + 6) 8 2 (by decide) (by decide) (by decide) σ1 _ (k1.reg (by decide) r8)).mono (fun x9 σ3 hp => ?_)
          obtain ⟨rfl, k3, r3⟩ := hp
          intro M hM
          show xX G l _ (d + 7) _ _ _ _ M N S
          have k13 : keeps [0, 1, 2, 3, 5, 6, 7, 8, 11, 12, 13, 14, 15] σE σ3 := (k1.s (by simp)).trans (k3.s (by simp))
          have hs3 := hsE.keeps k13 (by decide)
          have kA3 := kAE.trans k13
          refine x_aload_n (q := 178) dX9_area_177 rfl rfl ?_
          refine xn_iconst (q := 179) 2 dX9_area_178 rfl (by decide) ?_
          refine xn_ldc2 (q := 182) 8 dX9_area_179 rfl cwX9_345 ?_
          refine x_aload_n (q := 183) dX9_area_182 rfl rfl ?_
          refine x_aload_n (q := 184) dX9_area_183 rfl rfl ?_
          refine m_get (q := 187) hM 11 fwX9_32 (by decide) dX9_area_184 rfl rfl ?_
          refine x_iload_n (q := 188) dX9_area_187 rfl rfl ?_
          refine m_iald (q := 189) hM (n := 8) (by decide) dX9_area_188 rfl (by omega) ?_
          rw [show σ3.2.1 11 r.toNat = nI (rowAt z.2.2 r.toNat).1 by rw [kA3.2.2.1 11 (by decide) (by decide) (by decide), kA.1.2.1 11 (by decide)]; exact hrow.1]
          refine x_aload_n (q := 190) dX9_area_189 rfl rfl ?_
          refine m_get (q := 193) hM 12 fwX9_35 (by decide) dX9_area_190 rfl rfl ?_
          refine x_iload_n (q := 194) dX9_area_193 rfl rfl ?_
          refine m_iald (q := 195) hM (n := 8) (by decide) dX9_area_194 rfl (by omega) ?_
          rw [show σ3.2.1 12 r.toNat = nI (rowAt z.2.2 r.toNat).2.1 by rw [kA3.2.2.1 12 (by decide) (by decide) (by decide), kA.1.2.1 12 (by decide)]; exact hrow.2.1]
          refine m_call (q := 198) (As := [_, _]) hM imX9_over ivX9_over ilX9_over mwX9_324 xciX9 dX9_area_195 rfl rfl rfl (Nat.le_of_ble_eq_true rfl) ?_
          refine (c_over G l o as M0 N S (d + 6) σ3 z.1 hs3.1 _ _ (by unfold okRow at hokr; omega) (fun e => by unfold okRow at hokr; omega)).mono (fun x9 σ9' hp => ?_)
          obtain ⟨rfl, e9⟩ := hp
          intro M hM
          rw [e9] at hM; clear e9 σ9'
          show xX G l _ (d + 7) _ _ _ _ M N S
          refine xn_lmul (q := 199) dX9_area_198 rfl ?_
          refine m_call (q := 202) (As := [_, _]) hM imX9_multiplySmall ivX9_multiplySmall ilX9_multiplySmall mwX9_129 xciX9 dX9_area_199 rfl rfl rfl (Nat.le_of_ble_eq_true rfl) ?_
          have ov8 : ((8 * overP z.1 (rowAt z.2.2 r.toNat).1 (rowAt z.2.2 r.toNat).2.1 : Nat) : Int).natAbs < B9 ^ 1 := by rw [Int.natAbs_natCast, Nat.pow_one]; exact Nat.lt_of_le_of_lt (show _ ≤ 36864 by omega) (by decide)
          refine (c_multiplySmall G l o as M0 N S (d + 5) 2 (by decide) _ _ (lN_t (by omega)) (by omega) σ3 _ r3 (B9up har.2.1 (by omega))).mono (fun x9 σ4 hp => ?_)
          obtain ⟨rfl, k4, r4⟩ := hp
          intro M hM
          show xX G l _ (d + 7) _ _ _ _ M N S
          refine x_aload_n (q := 203) dX9_area_202 rfl rfl ?_
          refine xn_iconst (q := 204) 2 dX9_area_203 rfl (by decide) ?_
          refine xn_bipush (q := 206) 10 dX9_area_204 rfl (by decide) ?_
          refine xn_iconst (q := 207) 1 dX9_area_206 rfl (by decide) ?_
          refine m_call (q := 210) (As := [_, _, _]) hM imX9_multiply ivX9_multiply ilX9_multiply mwX9_198 xciX9 dX9_area_207 rfl rfl rfl (Nat.le_of_ble_eq_true rfl) ?_
          refine (c_multiply G l o as M0 N S (d + 5) 2 10 1 (by decide) (by decide) (by decide) (by decide) (by decide) σ4 _ _ 340 24 r4 (k4.reg (by decide) hs3.2.2) (B9up (B9m har.2.1 ov8) (by omega)) hD (by decide)).mono (fun x9 σ6 hp => ?_)
          obtain ⟨rfl, k6, r6⟩ := hp
          intro M hM
          show xX G l _ (d + 7) _ _ _ _ M N S
          have hne : (arP z.1 (rowAt z.2.2 r.toNat) (a * (solD z.1).sign) (5 * z.1.m - 1)).2 * ((8 * overP z.1 (rowAt z.2.2 r.toNat).1 (rowAt z.2.2 r.toNat).2.1 : Nat) : Int) * solD z.1 ≠ 0 := Int.mul_ne_zero (Int.mul_ne_zero har.2.2 (by omega)) hD0
          have hlt := B9m (B9up (B9m har.2.1 ov8) (show _ ≤ 340 by omega)) hD
          have r06 := k6.reg (by decide) (k4.reg (by decide) (k3.reg (by decide) r1))
          have hz6 : ∃ nn, 0 < nn ∧ nn ≤ 400 ∧ σ6.2.1 15 1 = nI nn := by
            obtain ⟨nn, n1, n2, n3, n4, n5⟩ := r6
            refine ⟨nn, ?_, n1, n3⟩
            rcases Nat.eq_zero_or_pos nn with e | e
            · rw [e] at n2; have := n2.1; rw [Nat.pow_zero] at this; exact absurd this (by omega)
            · exact e
          obtain ⟨nn, n1, n2, n3⟩ := hz6
          refine x_aload_n (q := 211) dX9_area_210 rfl rfl ?_
          refine m_get (q := 214) hM 16 fwX9_47 (by decide) dX9_area_211 rfl rfl ?_
          refine xn_iconst (q := 215) 1 dX9_area_214 rfl (by decide) ?_
          refine x_aload_n (q := 216) dX9_area_215 rfl rfl ?_
          refine m_get (q := 219) hM 15 fwX9_44 (by decide) dX9_area_216 rfl rfl ?_
          refine xn_iconst (q := 220) 1 dX9_area_219 rfl (by decide) ?_
          refine m_iald (q := 221) hM (n := 16) (by decide) dX9_area_220 rfl (by omega) ?_
          rw [n3]
          refine xn_if_ne (q := 224) 228 dX9_area_221 (by decide) rfl (by omega) (fun hc221 => ?_) (fun hc221 => absurd hc221 (by omega))
          refine xn_iconst (q := 229) 1 dX9_area_228 rfl (by decide) ?_
          refine m_sign (q := 230) hM dX9_area_229 rfl (by omega) (fun M σ229 k229 e229 f229 g229 hM => ?_)
          refine x_aload_n (q := 231) dX9_area_230 rfl rfl ?_
          refine m_call (q := 234) (As := []) hM imX9_reduce ivX9_reduce ilX9_reduce mwX9_327 xciX9 dX9_area_231 rfl rfl rfl (Nat.le_of_ble_eq_true rfl) ?_
          have r16 : Reg σ229 1 (arW z.1 (rowAt z.2.2 r.toNat) (a * (solD z.1).sign)) := r6.resign f229 g229 (by rw [e229]; unfold arW; rw [sg_pos (by omega)]; rfl) (by unfold arW; rw [Int.natAbs_natCast])
          have r09 := k229.reg (by decide) r06
          have haW : arW z.1 (rowAt z.2.2 r.toNat) (a * (solD z.1).sign) ≠ 0 := by unfold arW; omega
          have haW2 : (arW z.1 (rowAt z.2.2 r.toNat) (a * (solD z.1).sign)).natAbs < B9 ^ 397 := by unfold arW; rw [Int.natAbs_natCast]; exact B9up hlt (by decide)
          refine (c_reduce G l o as M0 N S (d + 3) σ229 _ _ r09 r16 haW (B9up har.1 (by omega)) haW2).mono (fun x9 σ8 hp => ?_)
          obtain ⟨rfl, k8, r80, r81⟩ := hp
          intro M hM
          show xX G l _ (d + 7) _ _ _ _ M N S
          have kF : kh [0, 1, 2, 3, 5, 6, 7, 8, 11, 12, 13, 14, 15] σ9 σ8 := (kA.mono (by intro r hr; simp at hr ⊢; omega)).trans (kA3.kh.trans ((keep.s (L := [0, 1, 2, 3, 5, 6, 7, 8, 11, 12, 13, 14, 15]) k4 (by simp)).kh.trans ((keep.s (L := [0, 1, 2, 3, 5, 6, 7, 8, 11, 12, 13, 14, 15]) k6 (by simp)).kh.trans ((keep.s (L := [0, 1, 2, 3, 5, 6, 7, 8, 11, 12, 13, 14, 15]) k229 (by simp)).kh.trans (k8.mono (by intro r hr; simp at hr ⊢; omega)).kh))))
          refine x_aload_n (q := 235) dX9_area_234 rfl rfl ?_
          refine x_iload_n (q := 236) dX9_area_235 rfl rfl ?_
          refine m_call (q := 239) (As := [_]) hM imX9_tell ivX9_tell ilX9_tell mwX9_330 xciX9 dX9_area_236 rfl rfl rfl (Nat.le_of_ble_eq_true rfl) ?_
          refine (c_tell G l o as M0 N S (d + 6) σ8 q (by omega) (by omega) _ _ r80 r81).mono (fun x9 σ9' hp => ?_)
          obtain ⟨rfl, e9⟩ := hp
          intro M hM
          rw [e9] at hM; clear e9 σ9'
          show xX G l _ (d + 7) _ _ _ _ M N S
          exact x_lret rfl dX9_area_239 (m_ret hM ⟨rfl, (kh.rs (L := [0, 1, 2, 3, 5, 6, 7, 8, 11, 12, 13, 14, 15]) kF (by decide) r9).rr⟩)
        · refine x_iload_n (q := 29) dX9_area_28 rfl rfl ?_
          refine x_callS (q := 32) (As := [_]) imX9_refused isX9_refused mwX9_317 dX9_area_29 rfl rfl rfl (Nat.le_of_ble_eq_true rfl) ?_
          refine c_refused G l _ M N S q hq1 hq2 _ ?_
          show xX G l _ (d + 7) _ _ _ _ M N S
          exact x_lret rfl dX9_area_32 (m_ret hM ⟨by rw [show spArea z r a q = iL (refP q) from if_neg (fun h => by omega)], r9.rr⟩)
end XS2
