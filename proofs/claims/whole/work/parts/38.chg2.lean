section XR6
set_option maxRecDepth 100000 in
set_option maxHeartbeats 4000000 in
theorem c_hinge (G : xG) (l : Launch) (o : Nat) (as : Nat → Nat) (M0 : xM) (N S : Nat) (d : Nat) (σ : mS) (z : mT) (hR : RR σ z) (k a : Int) (b : Bool) (hk1 : -2147483648 ≤ k) (hk2 : k < 2147483648) (ha1 : -2147483648 ≤ a) (ha2 : a < 2147483648) : mC G l o as M0 N S YX9_hinge (d + 1) [.int (iI k), .int (iI a), .int (bI b)] σ (fun x σ' => x = some (.int (bI (spHinge z k a b).2.1)) ∧ σ'.1 0 = bI (spHinge z k a b).1 ∧ RR σ' (spHinge z k a b).2.2) := by
  obtain ⟨ok, h3, h4, h5, h6, h7, h8, h9⟩ := hR.1.1
  have hm1 := ok.1
  have hm3 := ok.2.1
  refine mC.of (ls := [(0, .ref o), (1, .int (iI k)), (2, .int (iI a)), (3, .int (bI b))]) (by decide) (Nat.le_of_ble_eq_true rfl) rfl fun M hM => ?_
  have bad : ∀ (M : xM), (k < 0 ∨ (z.1.m : Int) ≤ k) → mAt o as σ M0 M → xX G l YX9_hinge (d + 1) (mQ o as M0 N S (fun x σ' => x = some (.int (bI (spHinge z k a b).2.1)) ∧ σ'.1 0 = bI (spHinge z k a b).1 ∧ RR σ' (spHinge z k a b).2.2)) 18 [(0, .ref o), (1, .int (iI k)), (2, .int (iI a)), (3, .int (bI b))] [.int (nI 1), .ref o] M N S := by
    intro M hk hM
    have e0 : spHinge z k a b = (true, false, z) := if_pos hk
    rw [e0]
    refine m_putG (q := 21) hM 0 fwX9_97 (by decide) rfl rfl rfl dX9_hinge_18 rfl rfl rfl (fun M σ18 a18 e18 b18 hM => ?_)
    refine x_aload_n (q := 22) dX9_hinge_21 rfl rfl ?_
    refine m_get (q := 25) hM 0 fwX9_97 (by decide) dX9_hinge_22 rfl rfl ?_
    rw [e18]
    refine xn_if_gt (q := 28) 37 dX9_hinge_25 (by decide) rfl (by omega) (fun hc25 => ?_) (fun hc25 => absurd hc25 (by omega))
    refine xn_iconst (q := 38) 0 dX9_hinge_37 rfl (by decide) ?_
    exact x_zret rfl (by decide) dX9_hinge_38 (m_ret hM ⟨rfl, e18, hR.code a18 b18⟩)
  have good : ∀ (M : xM) (kn : Nat), k = kn → kn < z.1.m → mAt o as σ M0 M → xX G l YX9_hinge (d + 1) (mQ o as M0 N S (fun x σ' => x = some (.int (bI (spHinge z k a b).2.1)) ∧ σ'.1 0 = bI (spHinge z k a b).1 ∧ RR σ' (spHinge z k a b).2.2)) 18 [(0, .ref o), (1, .int (nI kn)), (2, .int (iI a)), (3, .int (bI b))] [.int (nI 0), .ref o] M N S := by
    intro M kn hkn hk hM
    have hkt : k.toNat = kn := by omega
    have ek : spHinge z k a b = if a < 0 ∨ 1 < a then (false, false, z) else (false, z.1.Hg (2 * kn + a.toNat), (cHg z.1 (2 * kn + a.toNat) b, z.2)) := by unfold spHinge; rw [if_neg (by omega), hkt]
    rw [ek]
    refine m_putG (q := 21) hM 0 fwX9_97 (by decide) rfl rfl rfl dX9_hinge_18 rfl rfl rfl (fun M σ18 a18 e18 b18 hM => ?_)
    refine x_aload_n (q := 22) dX9_hinge_21 rfl rfl ?_
    refine m_get (q := 25) hM 0 fwX9_97 (by decide) dX9_hinge_22 rfl rfl ?_
    rw [e18]
    refine xn_if_gt (q := 28) 37 dX9_hinge_25 (by decide) rfl (by omega) (fun hc25 => absurd hc25 (by omega)) (fun hc25 => ?_)
    refine x_iload_n (q := 29) dX9_hinge_28 rfl rfl ?_
    refine xi_if_lt (q := 32) 37 dX9_hinge_29 (by decide) rfl rfl (by omega) (by omega) (fun hc29 => ?_) (fun hc29 => ?_)
    · refine xn_iconst (q := 38) 0 dX9_hinge_37 rfl (by decide) ?_
      rw [if_pos (by omega)]
      exact x_zret rfl (by decide) dX9_hinge_38 (m_ret hM ⟨rfl, e18, hR.code a18 b18⟩)
    · refine x_iload_n (q := 33) dX9_hinge_32 rfl rfl ?_
      refine xn_iconst (q := 34) 1 dX9_hinge_33 rfl (by decide) ?_
      refine xi_icmp_le (q := 37) 39 dX9_hinge_34 (by decide) rfl rfl (nI_i _) (by omega) (by omega) (by omega) (by omega) (fun hc34 => ?_) (fun hc34 => ?_)
      · refine x_aload_n (q := 40) dX9_hinge_39 rfl rfl ?_
        refine xn_iconst (q := 41) 0 dX9_hinge_40 rfl (by decide) ?_
        refine m_putG (q := 44) hM 22 fwX9_205 (by decide) rfl rfl rfl dX9_hinge_41 rfl rfl rfl (fun M σ41 a41 e41 b41 hM => ?_)
        refine x_aload_n (q := 45) dX9_hinge_44 rfl rfl ?_
        refine m_get (q := 48) hM 6 fwX9_19 (by decide) dX9_hinge_45 rfl rfl ?_
        refine xn_iconst (q := 49) 2 dX9_hinge_48 rfl (by decide) ?_
        refine x_iload_n (q := 50) dX9_hinge_49 rfl rfl ?_
        refine xn_imul (q := 51) dX9_hinge_50 rfl ?_
        refine x_iload_n (q := 52) dX9_hinge_51 rfl rfl ?_
        refine xi_iadd (q := 53) dX9_hinge_52 rfl (nI_i _) rfl ?_
        refine x_topi (y := nI (2 * kn + a.toNat)) (by rw [nI_i (2 * kn + a.toNat)]; exact congrArg iI (by omega)) ?_
        refine m_zald (q := 54) hM (n := 6) (by decide) dX9_hinge_53 rfl (by omega) ?_
        rw [show σ41.2.1 6 (2 * kn + a.toNat) = bI (z.1.Hg (2 * kn + a.toNat)) by rw [b41, b18]; exact h6 _ (by omega)]
        refine x_istore (q := 56) (ls' := [(0, _), (1, _), (2, _), (3, _), (4, _)]) [1, 2, 3, 4, 0] dX9_hinge_54 rfl (by decide) rfl ?_
        refine x_aload_n (q := 57) dX9_hinge_56 rfl rfl ?_
        refine m_get (q := 60) hM 6 fwX9_19 (by decide) dX9_hinge_57 rfl rfl ?_
        refine xn_iconst (q := 61) 2 dX9_hinge_60 rfl (by decide) ?_
        refine x_iload_n (q := 62) dX9_hinge_61 rfl rfl ?_
        refine xn_imul (q := 63) dX9_hinge_62 rfl ?_
        refine x_iload_n (q := 64) dX9_hinge_63 rfl rfl ?_
        refine xi_iadd (q := 65) dX9_hinge_64 rfl (nI_i _) rfl ?_
        refine x_topi (y := nI (2 * kn + a.toNat)) (by rw [nI_i (2 * kn + a.toNat)]; exact congrArg iI (by omega)) ?_
        refine x_iload_n (q := 66) dX9_hinge_65 rfl rfl ?_
        refine m_zastG (q := 67) hM (n := 6) (by decide) dX9_hinge_66 rfl (by omega) (bI_v _) (fun M σ66 a66 b66 c66 e66 f66 hM => ?_)
        refine x_iload (q := 69) dX9_hinge_67 rfl rfl ?_
        rw [if_neg (by omega)]
        have oo : onl [0, 22] [6] [] σ σ66 := ((onl.fld a18 b18).mono (by simp) (by simp) (by simp)).trans (((onl.fld a41 b41).mono (by simp) (by simp) (by simp)).trans ((onl.arr a66 b66 c66).mono (by simp) (by simp) (by simp)))
        refine x_zret rfl (bI_n _) dX9_hinge_69 (m_ret hM ⟨rfl, by rw [a66, a41 0 (by decide)]; exact e18, hR.upd oo rfl (by decide) (by decide) (by rw [a66]; exact e41) ⟨ok, (oo.1 3 (by decide)).trans h3, fun i hi => by rw [oo.2.1 4 (by decide)]; exact h4 i hi, fun i hi => by rw [oo.2.1 5 (by decide)]; exact h5 i hi, mu_at (fun i hi hik => ?_) e66, fun i hi => by rw [oo.2.1 7 (by decide)]; exact h7 i hi, fun i hi => by rw [oo.2.1 8 (by decide)]; exact h8 i hi, fun i hi => by rw [oo.2.1 9 (by decide)]; exact h9 i hi⟩⟩)
        rw [f66 i hik, b41, b18]; exact h6 i hi
      · refine xn_iconst (q := 38) 0 dX9_hinge_37 rfl (by decide) ?_
        rw [if_pos (by omega)]
        exact x_zret rfl (by decide) dX9_hinge_38 (m_ret hM ⟨rfl, e18, hR.code a18 b18⟩)
  refine x_aload_n (q := 1) dX9_hinge_0 rfl rfl ?_
  refine x_iload_n (q := 2) dX9_hinge_1 rfl rfl ?_
  refine xi_if_lt (q := 5) 13 dX9_hinge_2 (by decide) rfl rfl (by omega) (by omega) (fun hc2 => ?_) (fun hc2 => ?_)
  · refine xn_iconst (q := 14) 1 dX9_hinge_13 rfl (by decide) ?_
    refine x_goto 18 dX9_hinge_14 (by decide) ?_
    exact bad M (by omega) hM
  · refine x_iload_n (q := 6) dX9_hinge_5 rfl rfl ?_
    refine x_aload_n (q := 7) dX9_hinge_6 rfl rfl ?_
    refine m_get (q := 10) hM 3 fwX9_93 (by decide) dX9_hinge_7 rfl rfl ?_
    rw [h3]
    refine xi_icmp_lt (q := 13) 17 dX9_hinge_10 (by decide) rfl rfl (nI_i _) (by omega) (by omega) (by omega) (by omega) (fun hc10 => ?_) (fun hc10 => ?_)
    · refine xn_iconst (q := 18) 0 dX9_hinge_17 rfl (by decide) ?_
      obtain ⟨kn, hkn⟩ : ∃ kn : Nat, k = kn := ⟨k.toNat, by omega⟩
      have g := good M kn hkn (by omega) hM
      rw [nI_i kn, ← hkn] at g; exact g
    · refine xn_iconst (q := 14) 1 dX9_hinge_13 rfl (by decide) ?_
      refine x_goto 18 dX9_hinge_14 (by decide) ?_
      exact bad M (by omega) hM
set_option maxRecDepth 100000 in
set_option maxHeartbeats 4000000 in
theorem c_settled (G : xG) (l : Launch) (o : Nat) (as : Nat → Nat) (M0 : xM) (N S : Nat) (d : Nat) (σ : mS) (z : mT) (hR : RR σ z) (k v : Int) (hk1 : -2147483648 ≤ k) (hk2 : k < 2147483648) (hv1 : -9223372036854775808 ≤ v) (hv2 : v < 9223372036854775808) : mC G l o as M0 N S YX9_settled (d + 1) [.int (iI k), .long (iL v)] σ (fun x σ' => x = some (.int (bI (spSettled z k v).1)) ∧ RR σ' (spSettled z k v).2) := by
  obtain ⟨ok, h3, h4, h5, h6, h7, h8, h9⟩ := hR.1.1
  have hm1 := ok.1
  have hm3 := ok.2.1
  refine mC.of (ls := [(0, .ref o), (1, .int (iI k)), (2, .long (iL v))]) (by decide) (Nat.le_of_ble_eq_true rfl) rfl fun M hM => ?_
  refine x_aload_n (q := 1) dX9_settled_0 rfl rfl ?_
  refine xn_iconst (q := 2) 0 dX9_settled_1 rfl (by decide) ?_
  refine m_putG (q := 5) hM 0 fwX9_97 (by decide) rfl rfl rfl dX9_settled_2 rfl rfl rfl (fun M σ2 a2 e2 b2 hM => ?_)
  refine x_iload_n (q := 6) dX9_settled_5 rfl rfl ?_
  refine xi_if_lt (q := 9) 42 dX9_settled_6 (by decide) rfl rfl (by omega) (by omega) (fun hc6 => ?_) (fun hc6 => ?_)
  · refine xn_iconst (q := 43) 0 dX9_settled_42 rfl (by decide) ?_
    rw [show spSettled z k v = (false, z) from if_pos (by omega)]
    exact x_zret rfl (by decide) dX9_settled_43 (m_ret hM ⟨rfl, hR.code a2 b2⟩)
  · refine x_iload_n (q := 10) dX9_settled_9 rfl rfl ?_
    refine x_aload_n (q := 11) dX9_settled_10 rfl rfl ?_
    refine m_get (q := 14) hM 3 fwX9_93 (by decide) dX9_settled_11 rfl rfl ?_
    rw [show σ2.1 3 = nI z.1.m from (a2 3 (by decide)).trans h3]
    refine xi_icmp_gt (q := 17) 42 dX9_settled_14 (by decide) rfl rfl (nI_i _) (by omega) (by omega) (by omega) (by omega) (fun hc14 => ?_) (fun hc14 => ?_)
    · refine xn_iconst (q := 43) 0 dX9_settled_42 rfl (by decide) ?_
      rw [show spSettled z k v = (false, z) from if_pos (by omega)]
      exact x_zret rfl (by decide) dX9_settled_43 (m_ret hM ⟨rfl, hR.code a2 b2⟩)
    · refine x_aload_n (q := 18) dX9_settled_17 rfl rfl ?_
      refine m_get (q := 21) hM 7 fwX9_23 (by decide) dX9_settled_18 rfl rfl ?_
      refine x_iload_n (q := 22) dX9_settled_21 rfl rfl ?_
      refine x_topi (y := nI k.toNat) (by rw [nI_i k.toNat]; exact congrArg iI (by omega)) ?_
      refine m_zald (q := 23) hM (n := 4) (by decide) dX9_settled_22 rfl (by omega) ?_
      rw [show σ2.2.1 7 k.toNat = bI (z.1.Hi k.toNat) by rw [b2]; exact h7 _ (by omega)]
      refine x_if_eq (q := 26) 42 dX9_settled_23 (by decide) rfl (fun hc23 => ?_) (fun hc23 => ?_)
      · refine xn_iconst (q := 43) 0 dX9_settled_42 rfl (by decide) ?_
        rw [show spSettled z k v = (false, z) from if_pos (.inr (.inr (.inl (bI_eq.mp hc23))))]
        exact x_zret rfl (by decide) dX9_settled_43 (m_ret hM ⟨rfl, hR.code a2 b2⟩)
      · refine x_lload_n (q := 27) dX9_settled_26 rfl rfl ?_
        refine x_ldc2 (q := 30) (-1000) dX9_settled_27 rfl cwX9_289 ?_
        refine x_topl (y := iL (-1000)) (by decide) ?_
        refine xi_lcmp_lt (q1 := 31) (q := 34) 42 dX9_settled_30 rfl dX9_settled_31 (by decide) rfl rfl rfl (by omega) (by omega) (by omega) (by omega) (fun hc30 => ?_) (fun hc30 => ?_)
        · refine xn_iconst (q := 43) 0 dX9_settled_42 rfl (by decide) ?_
          rw [show spSettled z k v = (false, z) from if_pos (by omega)]
          exact x_zret rfl (by decide) dX9_settled_43 (m_ret hM ⟨rfl, hR.code a2 b2⟩)
        · refine x_lload_n (q := 35) dX9_settled_34 rfl rfl ?_
          refine xn_ldc2 (q := 38) 1000 dX9_settled_35 rfl cwX9_291 ?_
          refine xi_lcmp_le (q1 := 39) (q := 42) 44 dX9_settled_38 rfl dX9_settled_39 (by decide) rfl rfl (lN_i' _) (by omega) (by omega) (by omega) (by omega) (fun hc38 => ?_) (fun hc38 => ?_)
          · refine x_aload_n (q := 45) dX9_settled_44 rfl rfl ?_
            refine m_get (q := 48) hM 9 fwX9_29 (by decide) dX9_settled_45 rfl rfl ?_
            refine x_iload_n (q := 49) dX9_settled_48 rfl rfl ?_
            refine x_topi (y := nI k.toNat) (by rw [nI_i k.toNat]; exact congrArg iI (by omega)) ?_
            refine x_lload_n (q := 50) dX9_settled_49 rfl rfl ?_
            refine xi_l2i (q := 51) dX9_settled_50 rfl rfl (by omega) (by omega) ?_
            refine m_iastG (q := 52) hM (n := 4) (by decide) dX9_settled_51 rfl (by omega) (fun M σ51 a51 b51 c51 e51 f51 hM => ?_)
            refine x_aload_n (q := 53) dX9_settled_52 rfl rfl ?_
            refine xn_iconst (q := 54) 0 dX9_settled_53 rfl (by decide) ?_
            refine m_putG (q := 57) hM 22 fwX9_205 (by decide) rfl rfl rfl dX9_settled_54 rfl rfl rfl (fun M σ54 a54 e54 b54 hM => ?_)
            refine xn_iconst (q := 58) 1 dX9_settled_57 rfl (by decide) ?_
            rw [show spSettled z k v = (true, (cSe z.1 k.toNat v, z.2)) from if_neg (fun h => by have := bI_ne.mp hc23; rw [this] at h; simp at h; omega)]
            have oo : onl [0, 22] [9] [] σ σ54 := ((onl.fld a2 b2).mono (by simp) (by simp) (by simp)).trans (((onl.arr a51 b51 c51).mono (by simp) (by simp) (by simp)).trans ((onl.fld a54 b54).mono (by simp) (by simp) (by simp)))
            refine x_zret rfl (by decide) dX9_settled_58 (m_ret hM ⟨rfl, hR.upd oo rfl (by decide) (by decide) e54 ⟨⟨hm1, hm3, ok.2.2.1, ok.2.2.2.1, fun i hi => ?_⟩, (oo.1 3 (by decide)).trans h3, fun i hi => by rw [oo.2.1 4 (by decide)]; exact h4 i hi, fun i hi => by rw [oo.2.1 5 (by decide)]; exact h5 i hi, fun i hi => by rw [oo.2.1 6 (by decide)]; exact h6 i hi, fun i hi => by rw [oo.2.1 7 (by decide)]; exact h7 i hi, fun i hi => by rw [oo.2.1 8 (by decide)]; exact h8 i hi, mu_at (fun i hi hik => ?_) (by rw [show σ54.2.1 9 k.toNat = σ51.2.1 9 k.toNat by rw [b54]]; exact e51)⟩⟩)
            · show -1000 ≤ mu z.1.Se k.toNat v i ∧ mu z.1.Se k.toNat v i ≤ 1000; unfold mu; split; omega; exact ok.2.2.2.2 i hi
            · rw [show σ54.2.1 9 i = σ51.2.1 9 i by rw [b54], f51 i hik, b2]; exact h9 i hi
          · refine xn_iconst (q := 43) 0 dX9_settled_42 rfl (by decide) ?_
            rw [show spSettled z k v = (false, z) from if_pos (by omega)]
            exact x_zret rfl (by decide) dX9_settled_43 (m_ret hM ⟨rfl, hR.code a2 b2⟩)
def rowB (c : mCf) (w m p : Int) : Bool := decide (0 ≤ w ∧ w ≤ 2 ∧ 0 ≤ m ∧ m < (c.m : Int) ∧ 0 ≤ p ∧ p ≤ 4)
def rowN (c : mCf) (w m p : Int) : Bool := decide (w = 3 ∧ 0 ≤ m ∧ m ≤ (c.m : Int) ∧ p = 0 ∧ c.Hi m.toNat = true)
def spRow (z : mT) (w m p : Int) : Int × mT := if (rowB z.1 w m p = false ∧ rowN z.1 w m p = false) ∨ z.2.2.length = 8 then (-1, z) else ((z.2.2.length : Int), (z.1, z.2.1, z.2.2 ++ [(w.toNat, m.toNat, p.toNat)]))
theorem c_row_e (σ2 σ109 σ119 σ129 σ137 : mS) (z : mT) (hR2 : RR σ2 z) (w m p : Int) (hok : rowB z.1 w m p = true ∨ rowN z.1 w m p = true) (h8' : z.2.2.length < 8)
    (a109 : σ109.1 = σ2.1) (b109 : σ109.2.2 = σ2.2.2) (c109 : ∀ i, i ≠ 11 → σ109.2.1 i = σ2.2.1 i) (e109 : σ109.2.1 11 z.2.2.length = iI w) (f109 : ∀ i, i ≠ z.2.2.length → σ109.2.1 11 i = σ2.2.1 11 i)
    (a119 : σ119.1 = σ109.1) (b119 : σ119.2.2 = σ109.2.2) (c119 : ∀ i, i ≠ 12 → σ119.2.1 i = σ109.2.1 i) (e119 : σ119.2.1 12 z.2.2.length = iI m) (f119 : ∀ i, i ≠ z.2.2.length → σ119.2.1 12 i = σ109.2.1 12 i)
    (a129 : σ129.1 = σ119.1) (b129 : σ129.2.2 = σ119.2.2) (c129 : ∀ i, i ≠ 13 → σ129.2.1 i = σ119.2.1 i) (e129 : σ129.2.1 13 z.2.2.length = iI p) (f129 : ∀ i, i ≠ z.2.2.length → σ129.2.1 13 i = σ119.2.1 13 i)
    (a137 : ∀ i, i ≠ 10 → σ137.1 i = σ129.1 i) (e137 : σ137.1 10 = nI (z.2.2.length + 1)) (b137 : σ137.2 = σ129.2) : RR σ137 (z.1, z.2.1, z.2.2 ++ [(w.toNat, m.toNat, p.toNat)]) := by
  have oo : onl [10] [11, 12, 13] [] σ2 σ137 := ((onl.arr a109 b109 c109).mono (by simp) (by simp) (by simp)).trans (((onl.arr a119 b119 c119).mono (by simp) (by simp) (by simp)).trans (((onl.arr a129 b129 c129).mono (by simp) (by simp) (by simp)).trans ((onl.fld a137 b137).mono (by simp) (by simp) (by simp))))
  have hl : (z.2.2 ++ [(w.toNat, m.toNat, p.toNat)]).length = z.2.2.length + 1 := by simp
  have h11 : ∀ i, σ137.2.1 11 i = σ109.2.1 11 i := fun i => by rw [b137, c129 11 (by decide), c119 11 (by decide)]
  have h12 : ∀ i, σ137.2.1 12 i = σ119.2.1 12 i := fun i => by rw [b137, c129 12 (by decide)]
  have h13 : ∀ i, σ137.2.1 13 i = σ129.2.1 13 i := fun i => by rw [b137]
  refine ⟨⟨hR2.1.1.on oo (by decide) (by decide) (by decide) (by decide) (by decide) (by decide) (by decide), ?_⟩, hR2.2.1.on oo (by decide) (by decide), ⟨by rw [hl]; omega, by rw [hl]; exact e137, fun i hi => ?_⟩⟩
  · rcases hR2.1.2 with e | ⟨e, f⟩
    · exact .inl ((oo.1 22 (by decide)).trans e)
    · exact .inr ⟨(oo.1 22 (by decide)).trans e, f.on oo (by decide) (by decide)⟩
  · replace hi : i < z.2.2.length + 1 := by rw [← hl]; exact hi
    rw [h11, h12, h13]
    by_cases e : i = z.2.2.length
    · subst e
      rw [show (z.2.2 ++ [(w.toNat, m.toNat, p.toNat)]).getD z.2.2.length (0, 0, 0) = (w.toNat, m.toNat, p.toNat) from getD_r, e109, e119, e129, nI_i, nI_i, nI_i]
      unfold rowB rowN at hok
      rw [decide_eq_true_iff, decide_eq_true_iff] at hok
      refine ⟨congrArg iI (by dsimp only; omega), congrArg iI (by dsimp only; omega), congrArg iI (by dsimp only; omega), ?_⟩
      unfold okRow
      dsimp only
      omega
    · rw [show (z.2.2 ++ [(w.toNat, m.toNat, p.toNat)]).getD i (0, 0, 0) = z.2.2.getD i (0, 0, 0) from getD_l (by omega), f109 i e, f119 i e, f129 i e, c119 13 (by decide), c109 13 (by decide), c109 12 (by decide)]
      exact hR2.2.2.2.2 i (by omega)
set_option maxRecDepth 100000 in
set_option maxHeartbeats 4000000 in
theorem c_row (G : xG) (l : Launch) (o : Nat) (as : Nat → Nat) (M0 : xM) (N S : Nat) (d : Nat) (σ : mS) (z : mT) (hR : RR σ z) (w m p : Int) (hw1 : -2147483648 ≤ w) (hw2 : w < 2147483648) (hm1 : -2147483648 ≤ m) (hm2 : m < 2147483648) (hp1 : -2147483648 ≤ p) (hp2 : p < 2147483648) : mC G l o as M0 N S YX9_row (d + 1) [.int (iI w), .int (iI m), .int (iI p)] σ (fun x σ' => x = some (.int (iI (spRow z w m p).1)) ∧ RR σ' (spRow z w m p).2) := by
  obtain ⟨ok, h3, h4, h5, h6, h7, h8, h9⟩ := hR.1.1
  obtain ⟨r8, h10, hrw⟩ := hR.2.2
  have hm3 := ok.2.1
  refine mC.of (ls := [(0, .ref o), (1, .int (iI w)), (2, .int (iI m)), (3, .int (iI p))]) (by decide) (Nat.le_of_ble_eq_true rfl) rfl fun M hM => ?_
  have s79 : ∀ (σ2 : mS) (M : xM) (x y : Bool), (∀ i, i ≠ 0 → σ2.1 i = σ.1 i) → σ2.2 = σ.2 → x = rowB z.1 w m p → y = rowN z.1 w m p → mAt o as σ2 M0 M → xX G l YX9_row (d + 1) (mQ o as M0 N S (fun x σ' => x = some (.int (iI (spRow z w m p).1)) ∧ RR σ' (spRow z w m p).2)) 77 [(0, .ref o), (1, .int (iI w)), (2, .int (iI m)), (3, .int (iI p)), (4, .int (bI x))] [.int (bI y)] M N S := by
    intro σ2 M x y a2 b2 hx hy hM
    have hR2 := hR.code a2 b2
    have h10' : σ2.1 10 = nI z.2.2.length := (a2 10 (by decide)).trans h10
    refine x_istore (q := 79) (ls' := [(0, _), (1, _), (2, _), (3, _), (4, _), (5, _)]) [1, 2, 3, 4, 5, 0] dX9_row_77 rfl (by decide) rfl ?_
    refine x_iload (q := 81) dX9_row_79 rfl rfl ?_
    refine x_if_ne (q := 84) 89 dX9_row_81 (by decide) rfl (fun hc81 => ?_) (fun hc81 => ?_)
    · refine x_aload_n (q := 90) dX9_row_89 rfl rfl ?_
      refine m_get (q := 93) hM 10 fwX9_284 (by decide) dX9_row_90 rfl rfl ?_
      rw [h10']
      refine xn_bipush (q := 95) 8 dX9_row_93 rfl (by decide) ?_
      refine xn_icmp_ne (q := 98) 100 dX9_row_95 (by decide) rfl (by omega) (by omega) (fun hc95 => ?_) (fun hc95 => ?_)
      · refine x_aload_n (q := 101) dX9_row_100 rfl rfl ?_
        refine m_get (q := 104) hM 11 fwX9_32 (by decide) dX9_row_101 rfl rfl ?_
        refine x_aload_n (q := 105) dX9_row_104 rfl rfl ?_
        refine m_get (q := 108) hM 10 fwX9_284 (by decide) dX9_row_105 rfl rfl ?_
        rw [h10']
        refine x_iload_n (q := 109) dX9_row_108 rfl rfl ?_
        refine m_iastG (q := 110) hM (n := 8) (by decide) dX9_row_109 rfl (by omega) (fun M σ109 a109 b109 c109 e109 f109 hM => ?_)
        refine x_aload_n (q := 111) dX9_row_110 rfl rfl ?_
        refine m_get (q := 114) hM 12 fwX9_35 (by decide) dX9_row_111 rfl rfl ?_
        refine x_aload_n (q := 115) dX9_row_114 rfl rfl ?_
        refine m_get (q := 118) hM 10 fwX9_284 (by decide) dX9_row_115 rfl rfl ?_
        rw [show σ109.1 10 = nI z.2.2.length by rw [a109]; exact h10']
        refine x_iload_n (q := 119) dX9_row_118 rfl rfl ?_
        refine m_iastG (q := 120) hM (n := 8) (by decide) dX9_row_119 rfl (by omega) (fun M σ119 a119 b119 c119 e119 f119 hM => ?_)
        refine x_aload_n (q := 121) dX9_row_120 rfl rfl ?_
        refine m_get (q := 124) hM 13 fwX9_38 (by decide) dX9_row_121 rfl rfl ?_
        refine x_aload_n (q := 125) dX9_row_124 rfl rfl ?_
        refine m_get (q := 128) hM 10 fwX9_284 (by decide) dX9_row_125 rfl rfl ?_
        rw [show σ119.1 10 = nI z.2.2.length by rw [a119, a109]; exact h10']
        refine x_iload_n (q := 129) dX9_row_128 rfl rfl ?_
        refine m_iastG (q := 130) hM (n := 8) (by decide) dX9_row_129 rfl (by omega) (fun M σ129 a129 b129 c129 e129 f129 hM => ?_)
        refine x_aload_n (q := 131) dX9_row_130 rfl rfl ?_
        refine x_dup (q := 132) dX9_row_131 rfl rfl ?_
        refine m_get (q := 135) hM 10 fwX9_284 (by decide) dX9_row_132 rfl rfl ?_
        rw [show σ129.1 10 = nI z.2.2.length by rw [a129, a119, a109]; exact h10']
        refine xn_iconst (q := 136) 1 dX9_row_135 rfl (by decide) ?_
        refine xn_iadd (q := 137) dX9_row_136 rfl ?_
        refine m_putG (q := 140) hM 10 fwX9_284 (by decide) rfl rfl rfl dX9_row_137 rfl rfl rfl (fun M σ137 a137 e137 b137 hM => ?_)
        refine x_aload_n (q := 141) dX9_row_140 rfl rfl ?_
        refine m_get (q := 144) hM 10 fwX9_284 (by decide) dX9_row_141 rfl rfl ?_
        rw [e137]
        refine xn_iconst (q := 145) 1 dX9_row_144 rfl (by decide) ?_
        refine xn_isub (q := 146) dX9_row_145 rfl (by omega) ?_
        have hok : rowB z.1 w m p = true ∨ rowN z.1 w m p = true := .inl (hx.symm.trans (bI_ne.mp hc81))
        have e0 : spRow z w m p = ((z.2.2.length : Int), (z.1, z.2.1, z.2.2 ++ [(w.toNat, m.toNat, p.toNat)])) := if_neg (fun h => by rcases h with h | h; rcases hok with g | g; rw [h.1] at g; exact absurd g (by decide); rw [h.2] at g; exact absurd g (by decide); exact hc95 h)
        rw [e0]
        exact x_iret rfl dX9_row_146 (m_ret hM ⟨by rw [nI_i]; exact congrArg (fun t => some (Value.int (iI t))) (by omega), c_row_e σ2 σ109 σ119 σ129 σ137 z hR2 w m p hok (by omega) a109 b109 c109 e109 f109 a119 b119 c119 e119 f119 a129 b129 c129 e129 f129 a137 e137 b137⟩)
      · refine x_iconst (q := 99) (-1) dX9_row_98 rfl (by decide) ?_
        rw [show spRow z w m p = (-1, z) from if_pos (.inr hc95)]
        exact x_iret rfl dX9_row_99 (m_ret hM ⟨rfl, hR2⟩)
    · refine x_iload (q := 86) dX9_row_84 rfl rfl ?_
      refine x_if_eq (q := 89) 98 dX9_row_86 (by decide) rfl (fun hc86 => ?_) (fun hc86 => ?_)
      · refine x_iconst (q := 99) (-1) dX9_row_98 rfl (by decide) ?_
        rw [show spRow z w m p = (-1, z) from if_pos (.inl ⟨hx.symm.trans (bI_eq.mp hc81), hy.symm.trans (bI_eq.mp hc86)⟩)]
        exact x_iret rfl dX9_row_99 (m_ret hM ⟨rfl, hR2⟩)
      · refine x_aload_n (q := 90) dX9_row_89 rfl rfl ?_
        refine m_get (q := 93) hM 10 fwX9_284 (by decide) dX9_row_90 rfl rfl ?_
        rw [h10']
        refine xn_bipush (q := 95) 8 dX9_row_93 rfl (by decide) ?_
        refine xn_icmp_ne (q := 98) 100 dX9_row_95 (by decide) rfl (by omega) (by omega) (fun hc95 => ?_) (fun hc95 => ?_)
        · refine x_aload_n (q := 101) dX9_row_100 rfl rfl ?_
          refine m_get (q := 104) hM 11 fwX9_32 (by decide) dX9_row_101 rfl rfl ?_
          refine x_aload_n (q := 105) dX9_row_104 rfl rfl ?_
          refine m_get (q := 108) hM 10 fwX9_284 (by decide) dX9_row_105 rfl rfl ?_
          rw [h10']
          refine x_iload_n (q := 109) dX9_row_108 rfl rfl ?_
          refine m_iastG (q := 110) hM (n := 8) (by decide) dX9_row_109 rfl (by omega) (fun M σ109 a109 b109 c109 e109 f109 hM => ?_)
          refine x_aload_n (q := 111) dX9_row_110 rfl rfl ?_
          refine m_get (q := 114) hM 12 fwX9_35 (by decide) dX9_row_111 rfl rfl ?_
          refine x_aload_n (q := 115) dX9_row_114 rfl rfl ?_
          refine m_get (q := 118) hM 10 fwX9_284 (by decide) dX9_row_115 rfl rfl ?_
          rw [show σ109.1 10 = nI z.2.2.length by rw [a109]; exact h10']
          refine x_iload_n (q := 119) dX9_row_118 rfl rfl ?_
          refine m_iastG (q := 120) hM (n := 8) (by decide) dX9_row_119 rfl (by omega) (fun M σ119 a119 b119 c119 e119 f119 hM => ?_)
          refine x_aload_n (q := 121) dX9_row_120 rfl rfl ?_
          refine m_get (q := 124) hM 13 fwX9_38 (by decide) dX9_row_121 rfl rfl ?_
          refine x_aload_n (q := 125) dX9_row_124 rfl rfl ?_
          refine m_get (q := 128) hM 10 fwX9_284 (by decide) dX9_row_125 rfl rfl ?_
          rw [show σ119.1 10 = nI z.2.2.length by rw [a119, a109]; exact h10']
          refine x_iload_n (q := 129) dX9_row_128 rfl rfl ?_
          refine m_iastG (q := 130) hM (n := 8) (by decide) dX9_row_129 rfl (by omega) (fun M σ129 a129 b129 c129 e129 f129 hM => ?_)
          refine x_aload_n (q := 131) dX9_row_130 rfl rfl ?_
          refine x_dup (q := 132) dX9_row_131 rfl rfl ?_
          refine m_get (q := 135) hM 10 fwX9_284 (by decide) dX9_row_132 rfl rfl ?_
          rw [show σ129.1 10 = nI z.2.2.length by rw [a129, a119, a109]; exact h10']
          refine xn_iconst (q := 136) 1 dX9_row_135 rfl (by decide) ?_
          refine xn_iadd (q := 137) dX9_row_136 rfl ?_
          refine m_putG (q := 140) hM 10 fwX9_284 (by decide) rfl rfl rfl dX9_row_137 rfl rfl rfl (fun M σ137 a137 e137 b137 hM => ?_)
          refine x_aload_n (q := 141) dX9_row_140 rfl rfl ?_
          refine m_get (q := 144) hM 10 fwX9_284 (by decide) dX9_row_141 rfl rfl ?_
          rw [e137]
          refine xn_iconst (q := 145) 1 dX9_row_144 rfl (by decide) ?_
          refine xn_isub (q := 146) dX9_row_145 rfl (by omega) ?_
          have hok : rowB z.1 w m p = true ∨ rowN z.1 w m p = true := .inr (hy.symm.trans (bI_ne.mp hc86))
          have e0 : spRow z w m p = ((z.2.2.length : Int), (z.1, z.2.1, z.2.2 ++ [(w.toNat, m.toNat, p.toNat)])) := if_neg (fun h => by rcases h with h | h; rcases hok with g | g; rw [h.1] at g; exact absurd g (by decide); rw [h.2] at g; exact absurd g (by decide); exact hc95 h)
          rw [e0]
          exact x_iret rfl dX9_row_146 (m_ret hM ⟨by rw [nI_i]; exact congrArg (fun t => some (Value.int (iI t))) (by omega), c_row_e σ2 σ109 σ119 σ129 σ137 z hR2 w m p hok (by omega) a109 b109 c109 e109 f109 a119 b119 c119 e119 f119 a129 b129 c129 e129 f129 a137 e137 b137⟩)
        · refine x_iconst (q := 99) (-1) dX9_row_98 rfl (by decide) ?_
          rw [show spRow z w m p = (-1, z) from if_pos (.inr hc95)]
          exact x_iret rfl dX9_row_99 (m_ret hM ⟨rfl, hR2⟩)
  have s40 : ∀ (σ2 : mS) (M : xM) (x : Bool), (∀ i, i ≠ 0 → σ2.1 i = σ.1 i) → σ2.2 = σ.2 → x = rowB z.1 w m p → mAt o as σ2 M0 M → xX G l YX9_row (d + 1) (mQ o as M0 N S (fun x σ' => x = some (.int (iI (spRow z w m p).1)) ∧ RR σ' (spRow z w m p).2)) 40 [(0, .ref o), (1, .int (iI w)), (2, .int (iI m)), (3, .int (iI p))] [.int (bI x)] M N S := by
    intro σ2 M x a2 b2 hx hM
    refine x_istore (q := 42) (ls' := [(0, _), (1, _), (2, _), (3, _), (4, _)]) [1, 2, 3, 4, 0] dX9_row_40 rfl (by decide) rfl ?_
    refine x_iload_n (q := 43) dX9_row_42 rfl rfl ?_
    refine xn_iconst (q := 44) 3 dX9_row_43 rfl (by decide) ?_
    refine xi_icmp_ne (q := 47) 76 dX9_row_44 (by decide) rfl rfl (nI_i _) (by omega) (by omega) (by omega) (by omega) (fun hc44 => ?_) (fun hc44 => ?_)
    · refine xn_iconst (q := 77) 0 dX9_row_76 rfl (by decide) ?_
      exact s79 σ2 M x false a2 b2 hx (decide_eq_false (fun h => by omega)).symm hM
    · refine x_iload_n (q := 48) dX9_row_47 rfl rfl ?_
      refine xi_if_lt (q := 51) 76 dX9_row_48 (by decide) rfl rfl (by omega) (by omega) (fun hc48 => ?_) (fun hc48 => ?_)
      · refine xn_iconst (q := 77) 0 dX9_row_76 rfl (by decide) ?_
        exact s79 σ2 M x false a2 b2 hx (decide_eq_false (fun h => by omega)).symm hM
      · refine x_iload_n (q := 52) dX9_row_51 rfl rfl ?_
        refine x_aload_n (q := 53) dX9_row_52 rfl rfl ?_
        refine m_get (q := 56) hM 3 fwX9_93 (by decide) dX9_row_53 rfl rfl ?_
        rw [show σ2.1 3 = nI z.1.m from (a2 3 (by decide)).trans h3]
        refine xi_icmp_gt (q := 59) 76 dX9_row_56 (by decide) rfl rfl (nI_i _) (by omega) (by omega) (by omega) (by omega) (fun hc56 => ?_) (fun hc56 => ?_)
        · refine xn_iconst (q := 77) 0 dX9_row_76 rfl (by decide) ?_
          exact s79 σ2 M x false a2 b2 hx (decide_eq_false (fun h => by omega)).symm hM
        · refine x_iload_n (q := 60) dX9_row_59 rfl rfl ?_
          refine xi_if_ne (q := 63) 76 dX9_row_60 (by decide) rfl rfl (by omega) (by omega) (fun hc60 => ?_) (fun hc60 => ?_)
          · refine xn_iconst (q := 77) 0 dX9_row_76 rfl (by decide) ?_
            exact s79 σ2 M x false a2 b2 hx (decide_eq_false (fun h => by omega)).symm hM
          · refine x_aload_n (q := 64) dX9_row_63 rfl rfl ?_
            refine m_get (q := 67) hM 7 fwX9_23 (by decide) dX9_row_64 rfl rfl ?_
            refine x_iload_n (q := 68) dX9_row_67 rfl rfl ?_
            refine x_topi (y := nI m.toNat) (by rw [nI_i m.toNat]; exact congrArg iI (by omega)) ?_
            refine m_zald (q := 69) hM (n := 4) (by decide) dX9_row_68 rfl (by omega) ?_
            rw [show σ2.2.1 7 m.toNat = bI (z.1.Hi m.toNat) by rw [b2]; exact h7 _ (by omega)]
            refine x_if_eq (q := 72) 76 dX9_row_69 (by decide) rfl (fun hc69 => ?_) (fun hc69 => ?_)
            · refine xn_iconst (q := 77) 0 dX9_row_76 rfl (by decide) ?_
              exact s79 σ2 M x false a2 b2 hx (decide_eq_false (fun h => by have h1 := h.2.2.2.2; rw [bI_eq.mp hc69] at h1; exact absurd h1 (by decide))).symm hM
            · refine xn_iconst (q := 73) 1 dX9_row_72 rfl (by decide) ?_
              refine x_goto 77 dX9_row_73 (by decide) ?_
              exact s79 σ2 M x true a2 b2 hx (decide_eq_true ⟨by omega, by omega, by omega, by omega, bI_ne.mp hc69⟩).symm hM
  refine x_aload_n (q := 1) dX9_row_0 rfl rfl ?_
  refine xn_iconst (q := 2) 0 dX9_row_1 rfl (by decide) ?_
  refine m_putG (q := 5) hM 0 fwX9_97 (by decide) rfl rfl rfl dX9_row_2 rfl rfl rfl (fun M σ2 a2 e2 b2 hM => ?_)
  refine x_iload_n (q := 6) dX9_row_5 rfl rfl ?_
  refine xi_if_lt (q := 9) 39 dX9_row_6 (by decide) rfl rfl (by omega) (by omega) (fun hc6 => ?_) (fun hc6 => ?_)
  · refine xn_iconst (q := 40) 0 dX9_row_39 rfl (by decide) ?_
    exact s40 σ2 M false a2 b2 (decide_eq_false (fun h => by omega)).symm hM
  · refine x_iload_n (q := 10) dX9_row_9 rfl rfl ?_
    refine xn_iconst (q := 11) 2 dX9_row_10 rfl (by decide) ?_
    refine xi_icmp_gt (q := 14) 39 dX9_row_11 (by decide) rfl rfl (nI_i _) (by omega) (by omega) (by omega) (by omega) (fun hc11 => ?_) (fun hc11 => ?_)
    · refine xn_iconst (q := 40) 0 dX9_row_39 rfl (by decide) ?_
      exact s40 σ2 M false a2 b2 (decide_eq_false (fun h => by omega)).symm hM
    · refine x_iload_n (q := 15) dX9_row_14 rfl rfl ?_
      refine xi_if_lt (q := 18) 39 dX9_row_15 (by decide) rfl rfl (by omega) (by omega) (fun hc15 => ?_) (fun hc15 => ?_)
      · refine xn_iconst (q := 40) 0 dX9_row_39 rfl (by decide) ?_
        exact s40 σ2 M false a2 b2 (decide_eq_false (fun h => by omega)).symm hM
      · refine x_iload_n (q := 19) dX9_row_18 rfl rfl ?_
        refine x_aload_n (q := 20) dX9_row_19 rfl rfl ?_
        refine m_get (q := 23) hM 3 fwX9_93 (by decide) dX9_row_20 rfl rfl ?_
        rw [show σ2.1 3 = nI z.1.m from (a2 3 (by decide)).trans h3]
        refine xi_icmp_ge (q := 26) 39 dX9_row_23 (by decide) rfl rfl (nI_i _) (by omega) (by omega) (by omega) (by omega) (fun hc23 => ?_) (fun hc23 => ?_)
        · refine xn_iconst (q := 40) 0 dX9_row_39 rfl (by decide) ?_
          exact s40 σ2 M false a2 b2 (decide_eq_false (fun h => by omega)).symm hM
        · refine x_iload_n (q := 27) dX9_row_26 rfl rfl ?_
          refine xi_if_lt (q := 30) 39 dX9_row_27 (by decide) rfl rfl (by omega) (by omega) (fun hc27 => ?_) (fun hc27 => ?_)
          · refine xn_iconst (q := 40) 0 dX9_row_39 rfl (by decide) ?_
            exact s40 σ2 M false a2 b2 (decide_eq_false (fun h => by omega)).symm hM
          · refine x_iload_n (q := 31) dX9_row_30 rfl rfl ?_
            refine xn_iconst (q := 32) 4 dX9_row_31 rfl (by decide) ?_
            refine xi_icmp_gt (q := 35) 39 dX9_row_32 (by decide) rfl rfl (nI_i _) (by omega) (by omega) (by omega) (by omega) (fun hc32 => ?_) (fun hc32 => ?_)
            · refine xn_iconst (q := 40) 0 dX9_row_39 rfl (by decide) ?_
              exact s40 σ2 M false a2 b2 (decide_eq_false (fun h => by omega)).symm hM
            · refine xn_iconst (q := 36) 1 dX9_row_35 rfl (by decide) ?_
              refine x_goto 40 dX9_row_36 (by decide) ?_
              exact s40 σ2 M true a2 b2 (decide_eq_true (by omega)).symm hM
def bN (b : Bool) : Nat := match b with | true => 1 | false => 0
theorem bN_le (b : Bool) : bN b ≤ 1 := by cases b <;> decide
def hgN (c : mCf) : Nat → Nat
  | 0 => 0
  | k + 1 => hgN c k + (bN (c.Hg (2 * k)) + bN (c.Hg (2 * k + 1)))
def hiN (c : mCf) : Nat → Nat
  | 0 => 0
  | k + 1 => hiN c k + bN (c.Hi k)
def leN (c : mCf) : Nat → Nat
  | 0 => 0
  | k + 1 => leN c k + c.L k
def spCount (z : mT) (w : Int) : Int := if w = 0 then (z.1.m : Int) else if w = 1 then (z.2.2.length : Int) else if w = 2 then (hgN z.1 z.1.m : Int) else if w = 3 then (hiN z.1 (z.1.m + 1) : Int) else if w = 4 then (leN z.1 z.1.m : Int) else -1
set_option maxRecDepth 100000 in
set_option maxHeartbeats 4000000 in
theorem c_count_1 (G : xG) (l : Launch) (o : Nat) (as : Nat → Nat) (M0 : xM) (N S : Nat) (d : Nat) (σ : mS) (c : mCf) (hc : Cf σ c) (w : Int) (M : xM) (hM : mAt o as σ M0 M) (Q : xPost)
    (hx : xX G l YX9_count d Q 82 [(0, .ref o), (1, .int (iI w)), (2, .int (nI (hgN c c.m))), (3, .int (nI 0)), (4, .int (nI (leN c c.m))), (5, .int (nI c.m))] [] M N S) :
    ∀ (u k : Nat), k + u = c.m → xX G l YX9_count d Q 15 [(0, .ref o), (1, .int (iI w)), (2, .int (nI (hgN c k))), (3, .int (nI 0)), (4, .int (nI (leN c k))), (5, .int (nI k))] [] M N S := by
  obtain ⟨ok, h3, h4, h5, h6, h7, h8, h9⟩ := hc
  have hm3 := ok.2.1
  intro u
  induction u with
  | zero =>
    intro k hk
    obtain rfl : k = c.m := by omega
    refine x_iload (q := 17) dX9_count_15 rfl rfl ?_
    refine x_aload_n (q := 18) dX9_count_17 rfl rfl ?_
    refine m_get (q := 21) hM 3 fwX9_93 (by decide) dX9_count_18 rfl rfl ?_
    rw [h3]
    refine xn_icmp_ge (q := 24) 82 dX9_count_21 (by decide) rfl (by omega) (by omega) (fun hc21 => ?_) (fun hc21 => absurd hc21 (by omega))
    exact hx
  | succ u ih =>
    intro k hk
    have ih1 := ih (k + 1) (by omega)
    unfold hgN leN at ih1
    refine x_iload (q := 17) dX9_count_15 rfl rfl ?_
    refine x_aload_n (q := 18) dX9_count_17 rfl rfl ?_
    refine m_get (q := 21) hM 3 fwX9_93 (by decide) dX9_count_18 rfl rfl ?_
    rw [h3]
    refine xn_icmp_ge (q := 24) 82 dX9_count_21 (by decide) rfl (by omega) (by omega) (fun hc21 => absurd hc21 (by omega)) (fun hc21 => ?_)
    refine x_iload_n (q := 25) dX9_count_24 rfl rfl ?_
    refine x_aload_n (q := 26) dX9_count_25 rfl rfl ?_
    refine m_get (q := 29) hM 6 fwX9_19 (by decide) dX9_count_26 rfl rfl ?_
    refine xn_iconst (q := 30) 2 dX9_count_29 rfl (by decide) ?_
    refine x_iload (q := 32) dX9_count_30 rfl rfl ?_
    refine xn_imul (q := 33) dX9_count_32 rfl ?_
    refine m_zald (q := 34) hM (n := 6) (by decide) dX9_count_33 rfl (by omega) ?_
    rw [h6 (2 * k) (by omega)]
    refine x_if_eq (q := 37) 41 dX9_count_34 (by decide) rfl (fun hc34 => ?_) (fun hc34 => ?_)
    · refine xn_iconst (q := 42) 0 dX9_count_41 rfl (by decide) ?_
      refine x_aload_n (q := 43) dX9_count_42 rfl rfl ?_
      refine m_get (q := 46) hM 6 fwX9_19 (by decide) dX9_count_43 rfl rfl ?_
      refine xn_iconst (q := 47) 2 dX9_count_46 rfl (by decide) ?_
      refine x_iload (q := 49) dX9_count_47 rfl rfl ?_
      refine xn_imul (q := 50) dX9_count_49 rfl ?_
      refine xn_iconst (q := 51) 1 dX9_count_50 rfl (by decide) ?_
      refine xn_iadd (q := 52) dX9_count_51 rfl ?_
      refine m_zald (q := 53) hM (n := 6) (by decide) dX9_count_52 rfl (by omega) ?_
      rw [h6 (2 * k + 1) (by omega)]
      refine x_if_eq (q := 56) 60 dX9_count_53 (by decide) rfl (fun hc53 => ?_) (fun hc53 => ?_)
      · refine xn_iconst (q := 61) 0 dX9_count_60 rfl (by decide) ?_
        refine xn_iadd (q := 62) dX9_count_61 rfl ?_
        refine x_topi (y := nI 0) rfl ?_
        refine xn_iadd (q := 63) dX9_count_62 rfl ?_
        refine x_istore_n (q := 64) (ls' := [(0, _), (1, _), (2, _), (3, _), (4, _), (5, _)]) [1, 2, 0, 3, 4, 5] dX9_count_63 rfl (by decide) rfl ?_
        refine x_iload (q := 66) dX9_count_64 rfl rfl ?_
        refine x_aload_n (q := 67) dX9_count_66 rfl rfl ?_
        refine m_get (q := 70) hM 4 fwX9_13 (by decide) dX9_count_67 rfl rfl ?_
        refine x_iload (q := 72) dX9_count_70 rfl rfl ?_
        refine m_iald (q := 73) hM (n := 3) (by decide) dX9_count_72 rfl (by omega) ?_
        rw [h4 k (by omega)]
        refine xn_iadd (q := 74) dX9_count_73 rfl ?_
        refine x_istore (q := 76) (ls' := [(0, _), (1, _), (2, _), (3, _), (4, _), (5, _)]) [1, 2, 3, 4, 0, 5] dX9_count_74 rfl (by decide) rfl ?_
        refine xn_iinc (q := 79) (ls' := [(0, _), (1, _), (2, _), (3, _), (4, _), (5, _)]) [1, 2, 3, 4, 5, 0] 1 dX9_count_76 rfl rfl (by decide) (by decide) rfl ?_
        refine x_goto 15 dX9_count_79 (by decide) ?_
        rw [bI_eq.mp hc34, bI_eq.mp hc53] at ih1; exact ih1
      · refine xn_iconst (q := 57) 1 dX9_count_56 rfl (by decide) ?_
        refine x_goto 61 dX9_count_57 (by decide) ?_
        refine xn_iadd (q := 62) dX9_count_61 rfl ?_
        refine x_topi (y := nI 1) rfl ?_
        refine xn_iadd (q := 63) dX9_count_62 rfl ?_
        refine x_istore_n (q := 64) (ls' := [(0, _), (1, _), (2, _), (3, _), (4, _), (5, _)]) [1, 2, 0, 3, 4, 5] dX9_count_63 rfl (by decide) rfl ?_
        refine x_iload (q := 66) dX9_count_64 rfl rfl ?_
        refine x_aload_n (q := 67) dX9_count_66 rfl rfl ?_
        refine m_get (q := 70) hM 4 fwX9_13 (by decide) dX9_count_67 rfl rfl ?_
        refine x_iload (q := 72) dX9_count_70 rfl rfl ?_
        refine m_iald (q := 73) hM (n := 3) (by decide) dX9_count_72 rfl (by omega) ?_
        rw [h4 k (by omega)]
        refine xn_iadd (q := 74) dX9_count_73 rfl ?_
        refine x_istore (q := 76) (ls' := [(0, _), (1, _), (2, _), (3, _), (4, _), (5, _)]) [1, 2, 3, 4, 0, 5] dX9_count_74 rfl (by decide) rfl ?_
        refine xn_iinc (q := 79) (ls' := [(0, _), (1, _), (2, _), (3, _), (4, _), (5, _)]) [1, 2, 3, 4, 5, 0] 1 dX9_count_76 rfl rfl (by decide) (by decide) rfl ?_
        refine x_goto 15 dX9_count_79 (by decide) ?_
        rw [bI_eq.mp hc34, bI_ne.mp hc53] at ih1; exact ih1
    · refine xn_iconst (q := 38) 1 dX9_count_37 rfl (by decide) ?_
      refine x_goto 42 dX9_count_38 (by decide) ?_
      refine x_aload_n (q := 43) dX9_count_42 rfl rfl ?_
      refine m_get (q := 46) hM 6 fwX9_19 (by decide) dX9_count_43 rfl rfl ?_
      refine xn_iconst (q := 47) 2 dX9_count_46 rfl (by decide) ?_
      refine x_iload (q := 49) dX9_count_47 rfl rfl ?_
      refine xn_imul (q := 50) dX9_count_49 rfl ?_
      refine xn_iconst (q := 51) 1 dX9_count_50 rfl (by decide) ?_
      refine xn_iadd (q := 52) dX9_count_51 rfl ?_
      refine m_zald (q := 53) hM (n := 6) (by decide) dX9_count_52 rfl (by omega) ?_
      rw [h6 (2 * k + 1) (by omega)]
      refine x_if_eq (q := 56) 60 dX9_count_53 (by decide) rfl (fun hc53 => ?_) (fun hc53 => ?_)
      · refine xn_iconst (q := 61) 0 dX9_count_60 rfl (by decide) ?_
        refine xn_iadd (q := 62) dX9_count_61 rfl ?_
        refine x_topi (y := nI 1) rfl ?_
        refine xn_iadd (q := 63) dX9_count_62 rfl ?_
        refine x_istore_n (q := 64) (ls' := [(0, _), (1, _), (2, _), (3, _), (4, _), (5, _)]) [1, 2, 0, 3, 4, 5] dX9_count_63 rfl (by decide) rfl ?_
        refine x_iload (q := 66) dX9_count_64 rfl rfl ?_
        refine x_aload_n (q := 67) dX9_count_66 rfl rfl ?_
        refine m_get (q := 70) hM 4 fwX9_13 (by decide) dX9_count_67 rfl rfl ?_
        refine x_iload (q := 72) dX9_count_70 rfl rfl ?_
        refine m_iald (q := 73) hM (n := 3) (by decide) dX9_count_72 rfl (by omega) ?_
        rw [h4 k (by omega)]
        refine xn_iadd (q := 74) dX9_count_73 rfl ?_
        refine x_istore (q := 76) (ls' := [(0, _), (1, _), (2, _), (3, _), (4, _), (5, _)]) [1, 2, 3, 4, 0, 5] dX9_count_74 rfl (by decide) rfl ?_
        refine xn_iinc (q := 79) (ls' := [(0, _), (1, _), (2, _), (3, _), (4, _), (5, _)]) [1, 2, 3, 4, 5, 0] 1 dX9_count_76 rfl rfl (by decide) (by decide) rfl ?_
        refine x_goto 15 dX9_count_79 (by decide) ?_
        rw [bI_ne.mp hc34, bI_eq.mp hc53] at ih1; exact ih1
      · refine xn_iconst (q := 57) 1 dX9_count_56 rfl (by decide) ?_
        refine x_goto 61 dX9_count_57 (by decide) ?_
        refine xn_iadd (q := 62) dX9_count_61 rfl ?_
        refine x_topi (y := nI 2) rfl ?_
        refine xn_iadd (q := 63) dX9_count_62 rfl ?_
        refine x_istore_n (q := 64) (ls' := [(0, _), (1, _), (2, _), (3, _), (4, _), (5, _)]) [1, 2, 0, 3, 4, 5] dX9_count_63 rfl (by decide) rfl ?_
        refine x_iload (q := 66) dX9_count_64 rfl rfl ?_
        refine x_aload_n (q := 67) dX9_count_66 rfl rfl ?_
        refine m_get (q := 70) hM 4 fwX9_13 (by decide) dX9_count_67 rfl rfl ?_
        refine x_iload (q := 72) dX9_count_70 rfl rfl ?_
        refine m_iald (q := 73) hM (n := 3) (by decide) dX9_count_72 rfl (by omega) ?_
        rw [h4 k (by omega)]
        refine xn_iadd (q := 74) dX9_count_73 rfl ?_
        refine x_istore (q := 76) (ls' := [(0, _), (1, _), (2, _), (3, _), (4, _), (5, _)]) [1, 2, 3, 4, 0, 5] dX9_count_74 rfl (by decide) rfl ?_
        refine xn_iinc (q := 79) (ls' := [(0, _), (1, _), (2, _), (3, _), (4, _), (5, _)]) [1, 2, 3, 4, 5, 0] 1 dX9_count_76 rfl rfl (by decide) (by decide) rfl ?_
        refine x_goto 15 dX9_count_79 (by decide) ?_
        rw [bI_ne.mp hc34, bI_ne.mp hc53] at ih1; exact ih1
set_option maxRecDepth 100000 in
set_option maxHeartbeats 4000000 in
theorem c_count_2 (G : xG) (l : Launch) (o : Nat) (as : Nat → Nat) (M0 : xM) (N S : Nat) (d : Nat) (σ : mS) (c : mCf) (hc : Cf σ c) (w : Int) (p q : Nat) (M : xM) (hM : mAt o as σ M0 M) (Q : xPost)
    (hx : xX G l YX9_count d Q 118 [(0, .ref o), (1, .int (iI w)), (2, .int (nI p)), (3, .int (nI (hiN c (c.m + 1)))), (4, .int (nI q)), (5, .int (nI (c.m + 1)))] [] M N S) :
    ∀ (u k : Nat), k + u = c.m + 1 → xX G l YX9_count d Q 85 [(0, .ref o), (1, .int (iI w)), (2, .int (nI p)), (3, .int (nI (hiN c k))), (4, .int (nI q)), (5, .int (nI k))] [] M N S := by
  obtain ⟨ok, h3, h4, h5, h6, h7, h8, h9⟩ := hc
  have hm3 := ok.2.1
  intro u
  induction u with
  | zero =>
    intro k hk
    obtain rfl : k = c.m + 1 := by omega
    refine x_iload (q := 87) dX9_count_85 rfl rfl ?_
    refine x_aload_n (q := 88) dX9_count_87 rfl rfl ?_
    refine m_get (q := 91) hM 3 fwX9_93 (by decide) dX9_count_88 rfl rfl ?_
    rw [h3]
    refine xn_icmp_gt (q := 94) 118 dX9_count_91 (by decide) rfl (by omega) (by omega) (fun hc91 => ?_) (fun hc91 => absurd hc91 (by omega))
    exact hx
  | succ u ih =>
    intro k hk
    have ih1 := ih (k + 1) (by omega)
    unfold hiN at ih1
    refine x_iload (q := 87) dX9_count_85 rfl rfl ?_
    refine x_aload_n (q := 88) dX9_count_87 rfl rfl ?_
    refine m_get (q := 91) hM 3 fwX9_93 (by decide) dX9_count_88 rfl rfl ?_
    rw [h3]
    refine xn_icmp_gt (q := 94) 118 dX9_count_91 (by decide) rfl (by omega) (by omega) (fun hc91 => absurd hc91 (by omega)) (fun hc91 => ?_)
    refine x_iload_n (q := 95) dX9_count_94 rfl rfl ?_
    refine x_aload_n (q := 96) dX9_count_95 rfl rfl ?_
    refine m_get (q := 99) hM 7 fwX9_23 (by decide) dX9_count_96 rfl rfl ?_
    refine x_iload (q := 101) dX9_count_99 rfl rfl ?_
    refine m_zald (q := 102) hM (n := 4) (by decide) dX9_count_101 rfl (by omega) ?_
    rw [h7 k (by omega)]
    refine x_if_eq (q := 105) 109 dX9_count_102 (by decide) rfl (fun hc102 => ?_) (fun hc102 => ?_)
    · refine xn_iconst (q := 110) 0 dX9_count_109 rfl (by decide) ?_
      refine xn_iadd (q := 111) dX9_count_110 rfl ?_
      refine x_istore_n (q := 112) (ls' := [(0, _), (1, _), (2, _), (3, _), (4, _), (5, _)]) [1, 2, 3, 0, 4, 5] dX9_count_111 rfl (by decide) rfl ?_
      refine xn_iinc (q := 115) (ls' := [(0, _), (1, _), (2, _), (3, _), (4, _), (5, _)]) [1, 2, 3, 4, 5, 0] 1 dX9_count_112 rfl rfl (by decide) (by decide) rfl ?_
      refine x_goto 85 dX9_count_115 (by decide) ?_
      rw [bI_eq.mp hc102] at ih1; exact ih1
    · refine xn_iconst (q := 106) 1 dX9_count_105 rfl (by decide) ?_
      refine x_goto 110 dX9_count_106 (by decide) ?_
      refine xn_iadd (q := 111) dX9_count_110 rfl ?_
      refine x_istore_n (q := 112) (ls' := [(0, _), (1, _), (2, _), (3, _), (4, _), (5, _)]) [1, 2, 3, 0, 4, 5] dX9_count_111 rfl (by decide) rfl ?_
      refine xn_iinc (q := 115) (ls' := [(0, _), (1, _), (2, _), (3, _), (4, _), (5, _)]) [1, 2, 3, 4, 5, 0] 1 dX9_count_112 rfl rfl (by decide) (by decide) rfl ?_
      refine x_goto 85 dX9_count_115 (by decide) ?_
      rw [bI_ne.mp hc102] at ih1; exact ih1
set_option maxRecDepth 100000 in
set_option maxHeartbeats 4000000 in
theorem c_count (G : xG) (l : Launch) (o : Nat) (as : Nat → Nat) (M0 : xM) (N S : Nat) (d : Nat) (σ : mS) (z : mT) (hR : RR σ z) (w : Int) (hw1 : -2147483648 ≤ w) (hw2 : w < 2147483648) : mC G l o as M0 N S YX9_count (d + 1) [.int (iI w)] σ (fun x σ' => x = some (.int (iI (spCount z w))) ∧ RR σ' z) := by
  refine mC.of (ls := [(0, .ref o), (1, .int (iI w))]) (by decide) (Nat.le_of_ble_eq_true rfl) rfl fun M hM => ?_
  refine x_aload_n (q := 1) dX9_count_0 rfl rfl ?_
  refine xn_iconst (q := 2) 0 dX9_count_1 rfl (by decide) ?_
  refine m_putG (q := 5) hM 0 fwX9_97 (by decide) rfl rfl rfl dX9_count_2 rfl rfl rfl (fun M σ2 a2 e2 b2 hM => ?_)
  refine xn_iconst (q := 6) 0 dX9_count_5 rfl (by decide) ?_
  refine x_istore_n (q := 7) (ls' := [(0, _), (1, _), (2, _)]) [1, 2, 0] dX9_count_6 rfl (by decide) rfl ?_
  refine xn_iconst (q := 8) 0 dX9_count_7 rfl (by decide) ?_
  refine x_istore_n (q := 9) (ls' := [(0, _), (1, _), (2, _), (3, _)]) [1, 2, 3, 0] dX9_count_8 rfl (by decide) rfl ?_
  refine xn_iconst (q := 10) 0 dX9_count_9 rfl (by decide) ?_
  refine x_istore (q := 12) (ls' := [(0, _), (1, _), (2, _), (3, _), (4, _)]) [1, 2, 3, 4, 0] dX9_count_10 rfl (by decide) rfl ?_
  refine xn_iconst (q := 13) 0 dX9_count_12 rfl (by decide) ?_
  refine x_istore (q := 15) (ls' := [(0, _), (1, _), (2, _), (3, _), (4, _), (5, _)]) [1, 2, 3, 4, 5, 0] dX9_count_13 rfl (by decide) rfl ?_
  have hR2 := hR.code a2 b2
  have h3 := hR2.1.1.2.1
  have h10 := hR2.2.2.2.1
  refine c_count_1 G l o as M0 N S _ σ2 z.1 hR2.1.1 w M hM _ ?_ z.1.m 0 (Nat.zero_add _)
  refine xn_iconst (q := 83) 0 dX9_count_82 rfl (by decide) ?_
  refine x_istore (q := 85) (ls' := [(0, _), (1, _), (2, _), (3, _), (4, _), (5, _)]) [1, 2, 3, 4, 5, 0] dX9_count_83 rfl (by decide) rfl ?_
  refine c_count_2 G l o as M0 N S _ σ2 z.1 hR2.1.1 w _ _ M hM _ ?_ (z.1.m + 1) 0 (Nat.zero_add _)
  refine x_iload_n (q := 119) dX9_count_118 rfl rfl ?_
  refine xi_if_ne (q := 122) 129 dX9_count_119 (by decide) rfl rfl (by omega) (by omega) (fun hc119 => ?_) (fun hc119 => ?_)
  · refine x_iload_n (q := 130) dX9_count_129 rfl rfl ?_
    refine xn_iconst (q := 131) 1 dX9_count_130 rfl (by decide) ?_
    refine xi_icmp_ne (q := 134) 141 dX9_count_131 (by decide) rfl rfl (nI_i _) (by omega) (by omega) (by omega) (by omega) (fun hc131 => ?_) (fun hc131 => ?_)
    · refine x_iload_n (q := 142) dX9_count_141 rfl rfl ?_
      refine xn_iconst (q := 143) 2 dX9_count_142 rfl (by decide) ?_
      refine xi_icmp_ne (q := 146) 150 dX9_count_143 (by decide) rfl rfl (nI_i _) (by omega) (by omega) (by omega) (by omega) (fun hc143 => ?_) (fun hc143 => ?_)
      · refine x_iload_n (q := 151) dX9_count_150 rfl rfl ?_
        refine xn_iconst (q := 152) 3 dX9_count_151 rfl (by decide) ?_
        refine xi_icmp_ne (q := 155) 159 dX9_count_152 (by decide) rfl rfl (nI_i _) (by omega) (by omega) (by omega) (by omega) (fun hc152 => ?_) (fun hc152 => ?_)
        · refine x_iload_n (q := 160) dX9_count_159 rfl rfl ?_
          refine xn_iconst (q := 161) 4 dX9_count_160 rfl (by decide) ?_
          refine xi_icmp_ne (q := 164) 169 dX9_count_161 (by decide) rfl rfl (nI_i _) (by omega) (by omega) (by omega) (by omega) (fun hc161 => ?_) (fun hc161 => ?_)
          · refine x_iconst (q := 170) (-1) dX9_count_169 rfl (by decide) ?_
            refine x_iret rfl dX9_count_170 (m_ret hM ⟨?_, hR2⟩)
            unfold spCount; rw [if_neg (by omega : ¬ w = 0), if_neg (by omega : ¬ w = 1), if_neg (by omega : ¬ w = 2), if_neg (by omega : ¬ w = 3), if_neg (by omega : ¬ w = 4)]; rfl
          · refine x_iload (q := 166) dX9_count_164 rfl rfl ?_
            refine x_goto 170 dX9_count_166 (by decide) ?_
            refine x_iret rfl dX9_count_170 (m_ret hM ⟨?_, hR2⟩)
            unfold spCount; rw [if_neg (by omega : ¬ w = 0), if_neg (by omega : ¬ w = 1), if_neg (by omega : ¬ w = 2), if_neg (by omega : ¬ w = 3), if_pos (by omega : w = 4), nI_i]
        · refine x_iload_n (q := 156) dX9_count_155 rfl rfl ?_
          refine x_goto 170 dX9_count_156 (by decide) ?_
          refine x_iret rfl dX9_count_170 (m_ret hM ⟨?_, hR2⟩)
          unfold spCount; rw [if_neg (by omega : ¬ w = 0), if_neg (by omega : ¬ w = 1), if_neg (by omega : ¬ w = 2), if_pos (by omega : w = 3), nI_i]
      · refine x_iload_n (q := 147) dX9_count_146 rfl rfl ?_
        refine x_goto 170 dX9_count_147 (by decide) ?_
        refine x_iret rfl dX9_count_170 (m_ret hM ⟨?_, hR2⟩)
        unfold spCount; rw [if_neg (by omega : ¬ w = 0), if_neg (by omega : ¬ w = 1), if_pos (by omega : w = 2), nI_i]
    · refine x_aload_n (q := 135) dX9_count_134 rfl rfl ?_
      refine m_get (q := 138) hM 10 fwX9_284 (by decide) dX9_count_135 rfl rfl ?_
      rw [h10]
      refine x_goto 170 dX9_count_138 (by decide) ?_
      refine x_iret rfl dX9_count_170 (m_ret hM ⟨?_, hR2⟩)
      unfold spCount; rw [if_neg (by omega : ¬ w = 0), if_pos (by omega : w = 1), nI_i]
  · refine x_aload_n (q := 123) dX9_count_122 rfl rfl ?_
    refine m_get (q := 126) hM 3 fwX9_93 (by decide) dX9_count_123 rfl rfl ?_
    rw [h3]
    refine x_goto 170 dX9_count_126 (by decide) ?_
    refine x_iret rfl dX9_count_170 (m_ret hM ⟨?_, hR2⟩)
    unfold spCount; rw [if_pos (by omega : w = 0), nI_i]
set_option maxRecDepth 100000 in
set_option maxHeartbeats 4000000 in
theorem c_thrown (G : xG) (l : Launch) (o : Nat) (as : Nat → Nat) (M0 : xM) (N S : Nat) (d : Nat) (σ : mS) : mC G l o as M0 N S YX9_thrown d [] σ (fun x σ' => x = some (.int (σ.1 0)) ∧ σ' = σ) := by
  refine mC.of (ls := [(0, .ref o)]) (by decide) (Nat.le_of_ble_eq_true rfl) rfl fun M hM => ?_
  refine x_aload_n (q := 1) dX9_thrown_0 rfl rfl ?_
  refine m_get (q := 4) hM 0 fwX9_97 (by decide) dX9_thrown_1 rfl rfl ?_
  exact x_iret rfl dX9_thrown_4 (m_ret hM ⟨rfl, rfl⟩)
end XR6
