section XR5
def cLE (c : mCf) (k l e : Nat) : mCf := (c.m, mu c.L k l, mu c.E k e, c.2.2.2)
def cHi (c : mCf) (k : Nat) (b : Bool) : mCf := (c.m, c.L, c.E, c.Hg, mu c.Hi k b, c.Tu, if b = true then c.Se else mu c.Se k 0)
def cTu (c : mCf) (k : Nat) (b : Bool) : mCf := (c.m, c.L, c.E, c.Hg, c.Hi, mu c.Tu k b, c.Se)
def cHg (c : mCf) (k : Nat) (b : Bool) : mCf := (c.m, c.L, c.E, mu c.Hg k b, c.Hi, c.Tu, c.Se)
def cSe (c : mCf) (k : Nat) (v : Int) : mCf := (c.m, c.L, c.E, c.Hg, c.Hi, c.Tu, mu c.Se k v)
def spMember (z : mT) (k L E : Int) : Bool × Bool × mT := if k < 0 ∨ (z.1.m : Int) ≤ k then (true, false, z) else if L < 1 ∨ 12 < L ∨ E < 1 ∨ 12 < E then (false, false, z) else (false, true, (cLE z.1 k.toNat L.toNat E.toNat, z.2))
def spSupport (z : mT) (k a : Int) (b : Bool) : Bool × Bool × mT := if k < 0 ∨ (z.1.m : Int) < k then (true, false, z) else if a < 0 ∨ 1 < a then (false, false, z) else if a = 0 then (false, z.1.Hi k.toNat, (cHi z.1 k.toNat b, z.2)) else (false, z.1.Tu k.toNat, (cTu z.1 k.toNat b, z.2))
def spHinge (z : mT) (k a : Int) (b : Bool) : Bool × Bool × mT := if k < 0 ∨ (z.1.m : Int) ≤ k then (true, false, z) else if a < 0 ∨ 1 < a then (false, false, z) else (false, z.1.Hg (2 * k.toNat + a.toNat), (cHg z.1 (2 * k.toNat + a.toNat) b, z.2))
def spSettled (z : mT) (k v : Int) : Bool × mT := if k < 0 ∨ (z.1.m : Int) < k ∨ z.1.Hi k.toNat = false ∨ v < -1000 ∨ 1000 < v then (false, z) else (true, (cSe z.1 k.toNat v, z.2))
theorem RR.upd {σ σ' : mS} {z : mT} {c : mCf} {F A : List Nat} (h : RR σ z) (ho : onl F A [] σ σ') (hm : c.m = z.1.m) (hF : ∀ k ∈ [2, 10], k ∉ F) (hA : ∀ k ∈ [1, 11, 12, 13], k ∉ A) (h22 : σ'.1 22 = 0) (hc : Cf σ' c) : RR σ' (c, z.2) := by
  refine ⟨⟨hc, .inl h22⟩, h.2.1.on ho (hF _ (by simp)) (hA _ (by simp)), ?_⟩
  have hr := h.2.2.on ho (hF _ (by simp)) (hA _ (by simp)) (hA _ (by simp)) (hA _ (by simp))
  refine ⟨hr.1, hr.2.1, fun i hi => ?_⟩
  obtain ⟨p, q, r, s⟩ := hr.2.2 i hi
  refine ⟨p, q, r, ?_⟩
  unfold okRow at *
  rw [hm]
  exact s
theorem mu_at {α : Type} {f : Nat → α} {k : Nat} {v : α} {β : Type} {g : Nat → β} {e : α → β} {nn : Nat} (h : ∀ i, i < nn → i ≠ k → g i = e (f i)) (hk : g k = e v) : ∀ i, i < nn → g i = e (mu f k v i) := by
  intro i hi
  by_cases e0 : i = k
  · subst e0; rw [mu_s]; exact hk
  · rw [mu_n e0]; exact h i hi e0
set_option maxRecDepth 100000 in
set_option maxHeartbeats 4000000 in
theorem c_member (G : xG) (l : Launch) (o : Nat) (as : Nat → Nat) (M0 : xM) (N S : Nat) (d : Nat) (σ : mS) (z : mT) (hR : RR σ z) (k L E : Int) (hk1 : -2147483648 ≤ k) (hk2 : k < 2147483648) (hL1 : -9223372036854775808 ≤ L) (hL2 : L < 9223372036854775808) (hE1 : -9223372036854775808 ≤ E) (hE2 : E < 9223372036854775808) : mC G l o as M0 N S YX9_member (d + 1) [.int (iI k), .long (iL L), .long (iL E)] σ (fun x σ' => x = some (.int (bI (spMember z k L E).2.1)) ∧ σ'.1 0 = bI (spMember z k L E).1 ∧ RR σ' (spMember z k L E).2.2) := by
  obtain ⟨ok, h3, h4, h5, h6, h7, h8, h9⟩ := hR.1.1
  have hm1 := ok.1
  have hm3 := ok.2.1
  refine mC.of (ls := [(0, .ref o), (1, .int (iI k)), (2, .long (iL L)), (4, .long (iL E))]) (by decide) (Nat.le_of_ble_eq_true rfl) rfl fun M hM => ?_
  have bad : ∀ (M : xM), (k < 0 ∨ (z.1.m : Int) ≤ k) → mAt o as σ M0 M → xX G l YX9_member (d + 1) (mQ o as M0 N S (fun x σ' => x = some (.int (bI (spMember z k L E).2.1)) ∧ σ'.1 0 = bI (spMember z k L E).1 ∧ RR σ' (spMember z k L E).2.2)) 18 [(0, .ref o), (1, .int (iI k)), (2, .long (iL L)), (4, .long (iL E))] [.int (nI 1), .ref o] M N S := by
    intro M hk hM
    have e0 : spMember z k L E = (true, false, z) := if_pos hk
    rw [e0]
    refine m_putG (q := 21) hM 0 fwX9_97 (by decide) rfl rfl rfl dX9_member_18 rfl rfl rfl (fun M σ18 a18 e18 b18 hM => ?_)
    refine x_aload_n (q := 22) dX9_member_21 rfl rfl ?_
    refine m_get (q := 25) hM 0 fwX9_97 (by decide) dX9_member_22 rfl rfl ?_
    rw [e18]
    refine xn_if_gt (q := 28) 58 dX9_member_25 (by decide) rfl (by omega) (fun hc25 => ?_) (fun hc25 => absurd hc25 (by omega))
    refine xn_iconst (q := 59) 0 dX9_member_58 rfl (by decide) ?_
    exact x_zret rfl (by decide) dX9_member_59 (m_ret hM ⟨rfl, e18, hR.code a18 b18⟩)
  have good : ∀ (M : xM) (kn : Nat), k = kn → kn < z.1.m → mAt o as σ M0 M → xX G l YX9_member (d + 1) (mQ o as M0 N S (fun x σ' => x = some (.int (bI (spMember z k L E).2.1)) ∧ σ'.1 0 = bI (spMember z k L E).1 ∧ RR σ' (spMember z k L E).2.2)) 18 [(0, .ref o), (1, .int (nI kn)), (2, .long (iL L)), (4, .long (iL E))] [.int (nI 0), .ref o] M N S := by
    intro M kn hkn hk hM
    have ek : spMember z k L E = if L < 1 ∨ 12 < L ∨ E < 1 ∨ 12 < E then (false, false, z) else (false, true, (cLE z.1 k.toNat L.toNat E.toNat, z.2)) := if_neg (by omega)
    rw [ek]
    refine m_putG (q := 21) hM 0 fwX9_97 (by decide) rfl rfl rfl dX9_member_18 rfl rfl rfl (fun M σ18 a18 e18 b18 hM => ?_)
    refine x_aload_n (q := 22) dX9_member_21 rfl rfl ?_
    refine m_get (q := 25) hM 0 fwX9_97 (by decide) dX9_member_22 rfl rfl ?_
    rw [e18]
    refine xn_if_gt (q := 28) 58 dX9_member_25 (by decide) rfl (by omega) (fun hc25 => absurd hc25 (by omega)) (fun hc25 => ?_)
    refine x_lload_n (q := 29) dX9_member_28 rfl rfl ?_
    refine xn_lconst (q := 30) 1 dX9_member_29 rfl (by decide) ?_
    refine xi_lcmp_lt (q1 := 31) (q := 34) 58 dX9_member_30 rfl dX9_member_31 (by decide) rfl rfl (lN_i' _) (by omega) (by omega) (by omega) (by omega) (fun hc30 => ?_) (fun hc30 => ?_)
    · refine xn_iconst (q := 59) 0 dX9_member_58 rfl (by decide) ?_
      rw [if_pos (by omega)]
      exact x_zret rfl (by decide) dX9_member_59 (m_ret hM ⟨rfl, e18, hR.code a18 b18⟩)
    · refine x_lload_n (q := 35) dX9_member_34 rfl rfl ?_
      refine xn_ldc2 (q := 38) 12 dX9_member_35 rfl cwX9_287 ?_
      refine xi_lcmp_gt (q1 := 39) (q := 42) 58 dX9_member_38 rfl dX9_member_39 (by decide) rfl rfl (lN_i' _) (by omega) (by omega) (by omega) (by omega) (fun hc38 => ?_) (fun hc38 => ?_)
      · refine xn_iconst (q := 59) 0 dX9_member_58 rfl (by decide) ?_
        rw [if_pos (by omega)]
        exact x_zret rfl (by decide) dX9_member_59 (m_ret hM ⟨rfl, e18, hR.code a18 b18⟩)
      · refine x_lload (q := 44) dX9_member_42 rfl rfl ?_
        refine xn_lconst (q := 45) 1 dX9_member_44 rfl (by decide) ?_
        refine xi_lcmp_lt (q1 := 46) (q := 49) 58 dX9_member_45 rfl dX9_member_46 (by decide) rfl rfl (lN_i' _) (by omega) (by omega) (by omega) (by omega) (fun hc45 => ?_) (fun hc45 => ?_)
        · refine xn_iconst (q := 59) 0 dX9_member_58 rfl (by decide) ?_
          rw [if_pos (by omega)]
          exact x_zret rfl (by decide) dX9_member_59 (m_ret hM ⟨rfl, e18, hR.code a18 b18⟩)
        · refine x_lload (q := 51) dX9_member_49 rfl rfl ?_
          refine xn_ldc2 (q := 54) 12 dX9_member_51 rfl cwX9_287 ?_
          refine xi_lcmp_le (q1 := 55) (q := 58) 60 dX9_member_54 rfl dX9_member_55 (by decide) rfl rfl (lN_i' _) (by omega) (by omega) (by omega) (by omega) (fun hc54 => ?_) (fun hc54 => ?_)
          · refine x_aload_n (q := 61) dX9_member_60 rfl rfl ?_
            refine m_get (q := 64) hM 4 fwX9_13 (by decide) dX9_member_61 rfl rfl ?_
            refine x_iload_n (q := 65) dX9_member_64 rfl rfl ?_
            refine x_lload_n (q := 66) dX9_member_65 rfl rfl ?_
            refine xi_l2i (q := 67) dX9_member_66 rfl rfl (by omega) (by omega) ?_
            refine m_iastG (q := 68) hM (n := 3) (by decide) dX9_member_67 rfl (by omega) (fun M σ67 a67 b67 c67 e67 f67 hM => ?_)
            refine x_aload_n (q := 69) dX9_member_68 rfl rfl ?_
            refine m_get (q := 72) hM 5 fwX9_16 (by decide) dX9_member_69 rfl rfl ?_
            refine x_iload_n (q := 73) dX9_member_72 rfl rfl ?_
            refine x_lload (q := 75) dX9_member_73 rfl rfl ?_
            refine xi_l2i (q := 76) dX9_member_75 rfl rfl (by omega) (by omega) ?_
            refine m_iastG (q := 77) hM (n := 3) (by decide) dX9_member_76 rfl (by omega) (fun M σ76 a76 b76 c76 e76 f76 hM => ?_)
            refine x_aload_n (q := 78) dX9_member_77 rfl rfl ?_
            refine xn_iconst (q := 79) 0 dX9_member_78 rfl (by decide) ?_
            refine m_putG (q := 82) hM 22 fwX9_205 (by decide) rfl rfl rfl dX9_member_79 rfl rfl rfl (fun M σ79 a79 e79 b79 hM => ?_)
            refine xn_iconst (q := 83) 1 dX9_member_82 rfl (by decide) ?_
            rw [if_neg (by omega)]
            have hkt : k.toNat = kn := by omega
            rw [hkt]
            have oo : onl [0, 22] [4, 5] [] σ σ79 := ((onl.fld a18 b18).mono (by simp) (by simp) (by simp)).trans (((onl.arr a67 b67 c67).mono (by simp) (by simp) (by simp)).trans (((onl.arr a76 b76 c76).mono (by simp) (by simp) (by simp)).trans ((onl.fld a79 b79).mono (by simp) (by simp) (by simp))))
            refine x_zret rfl (by decide) dX9_member_83 (m_ret hM ⟨rfl, by rw [a79 0 (by decide), a76, a67]; exact e18, hR.upd oo rfl (by decide) (by decide) e79 ⟨⟨hm1, hm3, fun i hi => ?_, fun i hi => ?_, ok.2.2.2.2⟩, (oo.1 3 (by decide)).trans h3, mu_at (fun i hi hik => ?_) ?_, mu_at (fun i hi hik => ?_) ?_, fun i hi => by rw [oo.2.1 6 (by decide)]; exact h6 i hi, fun i hi => by rw [oo.2.1 7 (by decide)]; exact h7 i hi, fun i hi => by rw [oo.2.1 8 (by decide)]; exact h8 i hi, fun i hi => by rw [oo.2.1 9 (by decide)]; exact h9 i hi⟩⟩)
            · show 1 ≤ mu z.1.L kn L.toNat i ∧ mu z.1.L kn L.toNat i ≤ 12; unfold mu; split; omega; exact ok.2.2.1 i hi
            · show 1 ≤ mu z.1.E kn E.toNat i ∧ mu z.1.E kn E.toNat i ≤ 12; unfold mu; split; omega; exact ok.2.2.2.1 i hi
            · rw [show σ79.2.1 4 i = σ76.2.1 4 i by rw [b79], c76 4 (by decide), f67 i hik, b18]; exact h4 i hi
            · rw [show σ79.2.1 4 kn = σ76.2.1 4 kn by rw [b79], c76 4 (by decide), e67, nI_i]; exact congrArg iI (by omega)
            · rw [show σ79.2.1 5 i = σ76.2.1 5 i by rw [b79], f76 i hik, c67 5 (by decide), b18]; exact h5 i hi
            · rw [show σ79.2.1 5 kn = σ76.2.1 5 kn by rw [b79], e76, nI_i]; exact congrArg iI (by omega)
          · refine xn_iconst (q := 59) 0 dX9_member_58 rfl (by decide) ?_
            rw [if_pos (by omega)]
            exact x_zret rfl (by decide) dX9_member_59 (m_ret hM ⟨rfl, e18, hR.code a18 b18⟩)
  refine x_aload_n (q := 1) dX9_member_0 rfl rfl ?_
  refine x_iload_n (q := 2) dX9_member_1 rfl rfl ?_
  refine xi_if_lt (q := 5) 13 dX9_member_2 (by decide) rfl rfl (by omega) (by omega) (fun hc2 => ?_) (fun hc2 => ?_)
  · refine xn_iconst (q := 14) 1 dX9_member_13 rfl (by decide) ?_
    refine x_goto 18 dX9_member_14 (by decide) ?_
    exact bad M (by omega) hM
  · refine x_iload_n (q := 6) dX9_member_5 rfl rfl ?_
    refine x_aload_n (q := 7) dX9_member_6 rfl rfl ?_
    refine m_get (q := 10) hM 3 fwX9_93 (by decide) dX9_member_7 rfl rfl ?_
    rw [h3]
    refine xi_icmp_lt (q := 13) 17 dX9_member_10 (by decide) rfl rfl (nI_i _) (by omega) (by omega) (by omega) (by omega) (fun hc10 => ?_) (fun hc10 => ?_)
    · refine xn_iconst (q := 18) 0 dX9_member_17 rfl (by decide) ?_
      obtain ⟨kn, hkn⟩ : ∃ kn : Nat, k = kn := ⟨k.toNat, by omega⟩
      have g := good M kn hkn (by omega) hM
      rw [nI_i kn, ← hkn] at g; exact g
    · refine xn_iconst (q := 14) 1 dX9_member_13 rfl (by decide) ?_
      refine x_goto 18 dX9_member_14 (by decide) ?_
      exact bad M (by omega) hM
set_option maxRecDepth 100000 in
set_option maxHeartbeats 4000000 in
theorem c_support (G : xG) (l : Launch) (o : Nat) (as : Nat → Nat) (M0 : xM) (N S : Nat) (d : Nat) (σ : mS) (z : mT) (hR : RR σ z) (k a : Int) (b : Bool) (hk1 : -2147483648 ≤ k) (hk2 : k < 2147483648) (ha1 : -2147483648 ≤ a) (ha2 : a < 2147483648) : mC G l o as M0 N S YX9_support (d + 1) [.int (iI k), .int (iI a), .int (bI b)] σ (fun x σ' => x = some (.int (bI (spSupport z k a b).2.1)) ∧ σ'.1 0 = bI (spSupport z k a b).1 ∧ RR σ' (spSupport z k a b).2.2) := by
  obtain ⟨ok, h3, h4, h5, h6, h7, h8, h9⟩ := hR.1.1
  have hm1 := ok.1
  have hm3 := ok.2.1
  refine mC.of (ls := [(0, .ref o), (1, .int (iI k)), (2, .int (iI a)), (3, .int (bI b))]) (by decide) (Nat.le_of_ble_eq_true rfl) rfl fun M hM => ?_
  have bad : ∀ (M : xM), (k < 0 ∨ (z.1.m : Int) < k) → mAt o as σ M0 M → xX G l YX9_support (d + 1) (mQ o as M0 N S (fun x σ' => x = some (.int (bI (spSupport z k a b).2.1)) ∧ σ'.1 0 = bI (spSupport z k a b).1 ∧ RR σ' (spSupport z k a b).2.2)) 18 [(0, .ref o), (1, .int (iI k)), (2, .int (iI a)), (3, .int (bI b))] [.int (nI 1), .ref o] M N S := by
    intro M hk hM
    have e0 : spSupport z k a b = (true, false, z) := if_pos hk
    rw [e0]
    refine m_putG (q := 21) hM 0 fwX9_97 (by decide) rfl rfl rfl dX9_support_18 rfl rfl rfl (fun M σ18 a18 e18 b18 hM => ?_)
    refine x_aload_n (q := 22) dX9_support_21 rfl rfl ?_
    refine m_get (q := 25) hM 0 fwX9_97 (by decide) dX9_support_22 rfl rfl ?_
    rw [e18]
    refine xn_if_gt (q := 28) 37 dX9_support_25 (by decide) rfl (by omega) (fun hc25 => ?_) (fun hc25 => absurd hc25 (by omega))
    refine xn_iconst (q := 38) 0 dX9_support_37 rfl (by decide) ?_
    exact x_zret rfl (by decide) dX9_support_38 (m_ret hM ⟨rfl, e18, hR.code a18 b18⟩)
  have good : ∀ (M : xM) (kn : Nat), k = kn → kn ≤ z.1.m → mAt o as σ M0 M → xX G l YX9_support (d + 1) (mQ o as M0 N S (fun x σ' => x = some (.int (bI (spSupport z k a b).2.1)) ∧ σ'.1 0 = bI (spSupport z k a b).1 ∧ RR σ' (spSupport z k a b).2.2)) 18 [(0, .ref o), (1, .int (nI kn)), (2, .int (iI a)), (3, .int (bI b))] [.int (nI 0), .ref o] M N S := by
    intro M kn hkn hk hM
    have hkt : k.toNat = kn := by omega
    have ek : spSupport z k a b = if a < 0 ∨ 1 < a then (false, false, z) else if a = 0 then (false, z.1.Hi kn, (cHi z.1 kn b, z.2)) else (false, z.1.Tu kn, (cTu z.1 kn b, z.2)) := by unfold spSupport; rw [if_neg (by omega), hkt]
    rw [ek]
    refine m_putG (q := 21) hM 0 fwX9_97 (by decide) rfl rfl rfl dX9_support_18 rfl rfl rfl (fun M σ18 a18 e18 b18 hM => ?_)
    refine x_aload_n (q := 22) dX9_support_21 rfl rfl ?_
    refine m_get (q := 25) hM 0 fwX9_97 (by decide) dX9_support_22 rfl rfl ?_
    rw [e18]
    refine xn_if_gt (q := 28) 37 dX9_support_25 (by decide) rfl (by omega) (fun hc25 => absurd hc25 (by omega)) (fun hc25 => ?_)
    refine x_iload_n (q := 29) dX9_support_28 rfl rfl ?_
    refine xi_if_lt (q := 32) 37 dX9_support_29 (by decide) rfl rfl (by omega) (by omega) (fun hc29 => ?_) (fun hc29 => ?_)
    · refine xn_iconst (q := 38) 0 dX9_support_37 rfl (by decide) ?_
      rw [if_pos (by omega)]
      exact x_zret rfl (by decide) dX9_support_38 (m_ret hM ⟨rfl, e18, hR.code a18 b18⟩)
    · refine x_iload_n (q := 33) dX9_support_32 rfl rfl ?_
      refine xn_iconst (q := 34) 1 dX9_support_33 rfl (by decide) ?_
      refine xi_icmp_le (q := 37) 39 dX9_support_34 (by decide) rfl rfl (nI_i _) (by omega) (by omega) (by omega) (by omega) (fun hc34 => ?_) (fun hc34 => ?_)
      · refine x_aload_n (q := 40) dX9_support_39 rfl rfl ?_
        refine xn_iconst (q := 41) 0 dX9_support_40 rfl (by decide) ?_
        refine m_putG (q := 44) hM 22 fwX9_205 (by decide) rfl rfl rfl dX9_support_41 rfl rfl rfl (fun M σ41 a41 e41 b41 hM => ?_)
        refine x_iload_n (q := 45) dX9_support_44 rfl rfl ?_
        refine xi_if_ne (q := 48) 57 dX9_support_45 (by decide) rfl rfl (by omega) (by omega) (fun hc45 => ?_) (fun hc45 => ?_)
        · refine x_aload_n (q := 58) dX9_support_57 rfl rfl ?_
          refine m_get (q := 61) hM 8 fwX9_26 (by decide) dX9_support_58 rfl rfl ?_
          refine x_iload_n (q := 62) dX9_support_61 rfl rfl ?_
          refine m_zald (q := 63) hM (n := 4) (by decide) dX9_support_62 rfl (by omega) ?_
          rw [show σ41.2.1 8 kn = bI (z.1.Tu kn) by rw [b41, b18]; exact h8 kn (by omega)]
          refine x_istore (q := 65) (ls' := [(0, _), (1, _), (2, _), (3, _), (4, _)]) [1, 2, 3, 4, 0] dX9_support_63 rfl (by decide) rfl ?_
          refine x_iload_n (q := 66) dX9_support_65 rfl rfl ?_
          refine xi_if_ne (q := 69) 99 dX9_support_66 (by decide) rfl rfl (by omega) (by omega) (fun hc66 => ?_) (fun hc66 => absurd hc45 (by omega))
          refine x_aload_n (q := 100) dX9_support_99 rfl rfl ?_
          refine m_get (q := 103) hM 8 fwX9_26 (by decide) dX9_support_100 rfl rfl ?_
          refine x_iload_n (q := 104) dX9_support_103 rfl rfl ?_
          refine x_iload_n (q := 105) dX9_support_104 rfl rfl ?_
          refine m_zastG (q := 106) hM (n := 4) (by decide) dX9_support_105 rfl (by omega) (bI_v _) (fun M σ105 a105 b105 c105 e105 f105 hM => ?_)
          refine x_iload (q := 108) dX9_support_106 rfl rfl ?_
          rw [if_neg (by omega)]
          rw [if_neg (by omega)]
          have oo : onl [0, 22] [8] [] σ σ105 := ((onl.fld a18 b18).mono (by simp) (by simp) (by simp)).trans (((onl.fld a41 b41).mono (by simp) (by simp) (by simp)).trans ((onl.arr a105 b105 c105).mono (by simp) (by simp) (by simp)))
          refine x_zret rfl (bI_n _) dX9_support_108 (m_ret hM ⟨rfl, by rw [a105, a41 0 (by decide)]; exact e18, hR.upd oo rfl (by decide) (by decide) (by rw [a105]; exact e41) ⟨ok, (oo.1 3 (by decide)).trans h3, fun i hi => by rw [oo.2.1 4 (by decide)]; exact h4 i hi, fun i hi => by rw [oo.2.1 5 (by decide)]; exact h5 i hi, fun i hi => by rw [oo.2.1 6 (by decide)]; exact h6 i hi, fun i hi => by rw [oo.2.1 7 (by decide)]; exact h7 i hi, mu_at (fun i hi hik => ?_) e105, fun i hi => by rw [oo.2.1 9 (by decide)]; exact h9 i hi⟩⟩)
          rw [f105 i hik, b41, b18]; exact h8 i hi
        · refine x_aload_n (q := 49) dX9_support_48 rfl rfl ?_
          refine m_get (q := 52) hM 7 fwX9_23 (by decide) dX9_support_49 rfl rfl ?_
          refine x_iload_n (q := 53) dX9_support_52 rfl rfl ?_
          refine m_zald (q := 54) hM (n := 4) (by decide) dX9_support_53 rfl (by omega) ?_
          rw [show σ41.2.1 7 kn = bI (z.1.Hi kn) by rw [b41, b18]; exact h7 kn (by omega)]
          refine x_goto 63 dX9_support_54 (by decide) ?_
          refine x_istore (q := 65) (ls' := [(0, _), (1, _), (2, _), (3, _), (4, _)]) [1, 2, 3, 4, 0] dX9_support_63 rfl (by decide) rfl ?_
          refine x_iload_n (q := 66) dX9_support_65 rfl rfl ?_
          refine xi_if_ne (q := 69) 99 dX9_support_66 (by decide) rfl rfl (by omega) (by omega) (fun hc66 => absurd hc45 (by omega)) (fun hc66 => ?_)
          refine x_aload_n (q := 70) dX9_support_69 rfl rfl ?_
          refine m_get (q := 73) hM 7 fwX9_23 (by decide) dX9_support_70 rfl rfl ?_
          refine x_iload_n (q := 74) dX9_support_73 rfl rfl ?_
          refine x_iload_n (q := 75) dX9_support_74 rfl rfl ?_
          refine m_zastG (q := 76) hM (n := 4) (by decide) dX9_support_75 rfl (by omega) (bI_v _) (fun M σ75 a75 b75 c75 e75 f75 hM => ?_)
          refine x_aload_n (q := 77) dX9_support_76 rfl rfl ?_
          refine m_get (q := 80) hM 9 fwX9_29 (by decide) dX9_support_77 rfl rfl ?_
          refine x_iload_n (q := 81) dX9_support_80 rfl rfl ?_
          refine x_iload_n (q := 82) dX9_support_81 rfl rfl ?_
          refine x_if_eq (q := 85) 94 dX9_support_82 (by decide) rfl (fun hc82 => ?_) (fun hc82 => ?_)
          · refine xn_iconst (q := 95) 0 dX9_support_94 rfl (by decide) ?_
            refine m_iastG (q := 96) hM (n := 4) (by decide) dX9_support_95 rfl (by omega) (fun M σ95 a95 b95 c95 e95 f95 hM => ?_)
            refine x_goto 106 dX9_support_96 (by decide) ?_
            refine x_iload (q := 108) dX9_support_106 rfl rfl ?_
            rw [if_neg (by omega)]
            rw [if_pos (by omega)]
            have oo : onl [0, 22] [7, 9] [] σ σ95 := ((onl.fld a18 b18).mono (by simp) (by simp) (by simp)).trans (((onl.fld a41 b41).mono (by simp) (by simp) (by simp)).trans (((onl.arr a75 b75 c75).mono (by simp) (by simp) (by simp)).trans ((onl.arr a95 b95 c95).mono (by simp) (by simp) (by simp))))
            obtain rfl : b = false := bI_eq.mp hc82
            refine x_zret rfl (bI_n _) dX9_support_108 (m_ret hM ⟨rfl, by rw [a95, a75, a41 0 (by decide)]; exact e18, hR.upd oo rfl (by decide) (by decide) (by rw [a95, a75]; exact e41) ⟨⟨hm1, hm3, ok.2.2.1, ok.2.2.2.1, fun i hi => ?_⟩, (oo.1 3 (by decide)).trans h3, fun i hi => by rw [oo.2.1 4 (by decide)]; exact h4 i hi, fun i hi => by rw [oo.2.1 5 (by decide)]; exact h5 i hi, fun i hi => by rw [oo.2.1 6 (by decide)]; exact h6 i hi, mu_at (fun i hi hik => ?_) (by rw [c95 7 (by decide)]; exact e75), fun i hi => by rw [oo.2.1 8 (by decide)]; exact h8 i hi, ?_⟩⟩)
            · show -1000 ≤ mu z.1.Se kn 0 i ∧ mu z.1.Se kn 0 i ≤ 1000; unfold mu; split; decide; exact ok.2.2.2.2 i hi
            · rw [c95 7 (by decide), f75 i hik, b41, b18]; exact h7 i hi
            · refine mu_at (fun i hi hik => ?_) e95
              rw [f95 i hik, c75 9 (by decide), b41, b18]; exact h9 i hi
          · refine x_aload_n (q := 86) dX9_support_85 rfl rfl ?_
            refine m_get (q := 89) hM 9 fwX9_29 (by decide) dX9_support_86 rfl rfl ?_
            refine x_iload_n (q := 90) dX9_support_89 rfl rfl ?_
            refine m_iald (q := 91) hM (n := 4) (by decide) dX9_support_90 rfl (by omega) ?_
            rw [show σ75.2.1 9 kn = iI (z.1.Se kn) by rw [c75 9 (by decide), b41, b18]; exact h9 kn (by omega)]
            refine x_goto 95 dX9_support_91 (by decide) ?_
            refine m_iastG (q := 96) hM (n := 4) (by decide) dX9_support_95 rfl (by omega) (fun M σ95 a95 b95 c95 e95 f95 hM => ?_)
            refine x_goto 106 dX9_support_96 (by decide) ?_
            refine x_iload (q := 108) dX9_support_106 rfl rfl ?_
            rw [if_neg (by omega)]
            rw [if_pos (by omega)]
            have oo : onl [0, 22] [7, 9] [] σ σ95 := ((onl.fld a18 b18).mono (by simp) (by simp) (by simp)).trans (((onl.fld a41 b41).mono (by simp) (by simp) (by simp)).trans (((onl.arr a75 b75 c75).mono (by simp) (by simp) (by simp)).trans ((onl.arr a95 b95 c95).mono (by simp) (by simp) (by simp))))
            obtain rfl : b = true := bI_ne.mp hc82
            refine x_zret rfl (bI_n _) dX9_support_108 (m_ret hM ⟨rfl, by rw [a95, a75, a41 0 (by decide)]; exact e18, hR.upd oo rfl (by decide) (by decide) (by rw [a95, a75]; exact e41) ⟨⟨hm1, hm3, ok.2.2.1, ok.2.2.2.1, fun i hi => ?_⟩, (oo.1 3 (by decide)).trans h3, fun i hi => by rw [oo.2.1 4 (by decide)]; exact h4 i hi, fun i hi => by rw [oo.2.1 5 (by decide)]; exact h5 i hi, fun i hi => by rw [oo.2.1 6 (by decide)]; exact h6 i hi, mu_at (fun i hi hik => ?_) (by rw [c95 7 (by decide)]; exact e75), fun i hi => by rw [oo.2.1 8 (by decide)]; exact h8 i hi, ?_⟩⟩)
            · exact ok.2.2.2.2 i hi
            · rw [c95 7 (by decide), f75 i hik, b41, b18]; exact h7 i hi
            · intro i hi
              by_cases e : i = kn
              · subst e; exact e95
              · rw [f95 i e, c75 9 (by decide), b41, b18]; exact h9 i hi
      · refine xn_iconst (q := 38) 0 dX9_support_37 rfl (by decide) ?_
        rw [if_pos (by omega)]
        exact x_zret rfl (by decide) dX9_support_38 (m_ret hM ⟨rfl, e18, hR.code a18 b18⟩)
  refine x_aload_n (q := 1) dX9_support_0 rfl rfl ?_
  refine x_iload_n (q := 2) dX9_support_1 rfl rfl ?_
  refine xi_if_lt (q := 5) 13 dX9_support_2 (by decide) rfl rfl (by omega) (by omega) (fun hc2 => ?_) (fun hc2 => ?_)
  · refine xn_iconst (q := 14) 1 dX9_support_13 rfl (by decide) ?_
    refine x_goto 18 dX9_support_14 (by decide) ?_
    exact bad M (by omega) hM
  · refine x_iload_n (q := 6) dX9_support_5 rfl rfl ?_
    refine x_aload_n (q := 7) dX9_support_6 rfl rfl ?_
    refine m_get (q := 10) hM 3 fwX9_93 (by decide) dX9_support_7 rfl rfl ?_
    rw [h3]
    refine xi_icmp_le (q := 13) 17 dX9_support_10 (by decide) rfl rfl (nI_i _) (by omega) (by omega) (by omega) (by omega) (fun hc10 => ?_) (fun hc10 => ?_)
    · refine xn_iconst (q := 18) 0 dX9_support_17 rfl (by decide) ?_
      obtain ⟨kn, hkn⟩ : ∃ kn : Nat, k = kn := ⟨k.toNat, by omega⟩
      have g := good M kn hkn (by omega) hM
      rw [nI_i kn, ← hkn] at g; exact g
    · refine xn_iconst (q := 14) 1 dX9_support_13 rfl (by decide) ?_
      refine x_goto 18 dX9_support_14 (by decide) ?_
      exact bad M (by omega) hM
end XR5
