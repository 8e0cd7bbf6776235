section XM1
theorem xX.post {G : xG} {l : Launch} {Y : xY} {d : Nat} {Q Q' : xPost} {pc : Nat} {ls : List (Nat × Value)} {st : List Value} {M : xM} {N S : Nat} (h : xX G l Y d Q pc ls st M N S) (hq : ∀ r M' N' S', Q r M' N' S' → Q' r M' N' S') : xX G l Y d Q' pc ls st M N S := by
  intro p e R s m args below meth c H locs lsA hF hH T hT X
  obtain ⟨t, a1, o, b1, b2, ⟨r, M', h4, h5, h6, h7⟩, b4⟩ := h p e R s m args below meth c H locs lsA hF hH T hT X
  exact ⟨t, a1, o, b1, b2, ⟨r, M', h4, h5, hq _ _ _ _ h6, h7⟩, b4⟩
def pivR (W : Nat → Nat → Int) (c : Nat) : Nat → Nat → Nat
  | 0, k => k
  | t + 1, k => if W k c = 0 then pivR W c t (k + 1) else k
theorem pivR_ge (W : Nat → Nat → Int) (c : Nat) : ∀ t k, k ≤ pivR W c t k ∧ pivR W c t k ≤ k + t
  | 0, k => ⟨Nat.le_refl _, Nat.le_refl _⟩
  | t + 1, k => by
    unfold pivR
    have := pivR_ge W c t (k + 1)
    split <;> omega
def swR (W : Nat → Nat → Int) (a b : Nat) : Nat → Nat → Int := fun i j => if i = a then W b j else if i = b then W a j else W i j
def swRJ (W : Nat → Nat → Int) (a b t : Nat) : Nat → Nat → Int := fun i j => if j < t then swR W a b i j else W i j
def clrs (W : Nat → Nat → Int) (r c : Nat) : Nat → Nat → Nat → Int
  | 0 => W
  | t + 1 => clrM (clrs W r c t) (r + 1 + t) r c
def rkS (W : Nat → Nat → Int) (n : Nat) : Nat → (Nat → Nat → Int) × Nat
  | 0 => (W, 0)
  | c + 1 => if pivR (rkS W n c).1 c (n - (rkS W n c).2) (rkS W n c).2 = n then rkS W n c else (clrs (swR (rkS W n c).1 (pivR (rkS W n c).1 c (n - (rkS W n c).2) (rkS W n c).2) (rkS W n c).2) (rkS W n c).2 c (n - 1 - (rkS W n c).2), (rkS W n c).2 + 1)
def rkOk (W : Nat → Nat → Int) (n : Nat) : Prop := ∀ c, c < 6 → pivR (rkS W n c).1 c (n - (rkS W n c).2) (rkS W n c).2 ≠ n → ∀ t, t < n - 1 - (rkS W n c).2 → ∀ j, j < 6 → (clrV (clrs (swR (rkS W n c).1 (pivR (rkS W n c).1 c (n - (rkS W n c).2) (rkS W n c).2) (rkS W n c).2) (rkS W n c).2 c t) ((rkS W n c).2 + 1 + t) (rkS W n c).2 c j).natAbs < 9223372036854775808
theorem rkS_le (W : Nat → Nat → Int) (n : Nat) : ∀ c, (rkS W n c).2 ≤ n ∧ (rkS W n c).2 ≤ c
  | 0 => ⟨Nat.zero_le _, Nat.le_refl _⟩
  | c + 1 => by
    have ih := rkS_le W n c
    have hp := pivR_ge (rkS W n c).1 c (n - (rkS W n c).2) (rkS W n c).2
    unfold rkS
    split
    · omega
    · show (rkS W n c).2 + 1 ≤ n ∧ (rkS W n c).2 + 1 ≤ c + 1
      omega
/-- every entry that stays as it is is the number of itself -/
theorem iL_self (x : Int64) : x = iL x.toInt := (Int64.ofInt_toInt x).symm
set_option maxRecDepth 100000 in
set_option maxHeartbeats 4000000 in
theorem c_rank_A (G : xG) (l : Launch) (o : Nat) (as : Nat → Nat) (M0 : xM) (N S : Nat) (d : Nat) (σ : mS) (m : Nat) (hm : m ≤ 20) (Q : xPost)
    (hx : ∀ σ' M, onlyW σ σ' → (∀ t, t < 6 * m → σ'.2.2 26 t = σ.2.2 24 t) → mAt o as σ' M0 M → xX G l YX9_rank d Q 28 [(0, .ref o), (1, .int (nI m)), (2, .int (nI (6 * m)))] [] M N S) :
    ∀ (u k : Nat), k + u = 6 * m → ∀ σ' M, onlyW σ σ' → (∀ t, t < k → σ'.2.2 26 t = σ.2.2 24 t) → mAt o as σ' M0 M → xX G l YX9_rank d Q 2 [(0, .ref o), (1, .int (nI m)), (2, .int (nI k))] [] M N S := by
  intro u
  induction u with
  | zero =>
    intro k hk σ' M ho hw hM
    obtain rfl : k = 6 * m := by omega
    refine x_iload_n (q := 3) dX9_rank_2 rfl rfl ?_
    refine xn_bipush (q := 5) 6 dX9_rank_3 rfl (by decide) ?_
    refine x_iload_n (q := 6) dX9_rank_5 rfl rfl ?_
    refine xn_imul (q := 7) dX9_rank_6 rfl ?_
    refine xn_icmp_ge (q := 10) 28 dX9_rank_7 (by decide) rfl (by omega) (by omega) (fun hc7 => ?_) (fun hc7 => absurd hc7 (by omega))
    exact hx σ' M ho hw hM
  | succ u ih =>
    intro k hk σ' M ho hw hM
    refine x_iload_n (q := 3) dX9_rank_2 rfl rfl ?_
    refine xn_bipush (q := 5) 6 dX9_rank_3 rfl (by decide) ?_
    refine x_iload_n (q := 6) dX9_rank_5 rfl rfl ?_
    refine xn_imul (q := 7) dX9_rank_6 rfl ?_
    refine xn_icmp_ge (q := 10) 28 dX9_rank_7 (by decide) rfl (by omega) (by omega) (fun hc7 => absurd hc7 (by omega)) (fun hc7 => ?_)
    refine x_aload_n (q := 11) dX9_rank_10 rfl rfl ?_
    refine m_get (q := 14) hM 26 fwX9_66 (by decide) dX9_rank_11 rfl rfl ?_
    refine x_iload_n (q := 15) dX9_rank_14 rfl rfl ?_
    refine x_aload_n (q := 16) dX9_rank_15 rfl rfl ?_
    refine m_get (q := 19) hM 24 fwX9_63 (by decide) dX9_rank_16 rfl rfl ?_
    refine x_iload_n (q := 20) dX9_rank_19 rfl rfl ?_
    refine m_lald (q := 21) hM (n := 120) (by decide) dX9_rank_20 rfl (by omega) ?_
    refine m_lastG (q := 22) hM (n := 126) (by decide) dX9_rank_21 rfl (by omega) (fun M σ21 a21 b21 c21 e21 f21 hM => ?_)
    refine xn_iinc (q := 25) (ls' := [(0, _), (1, _), (2, _)]) [1, 2, 0] 1 dX9_rank_22 rfl rfl (by decide) (by decide) rfl ?_
    refine x_goto 2 dX9_rank_25 (by decide) ?_
    refine ih (k + 1) (by omega) σ21 M (ho.trans ⟨a21, b21, c21⟩) (fun t ht => ?_) hM
    by_cases e : t = k
    · rw [e, e21, ho.2.2 24 (by decide)]
    · rw [f21 t e]; exact hw t (by omega)
set_option maxRecDepth 100000 in
set_option maxHeartbeats 4000000 in
theorem c_rank_C (G : xG) (l : Launch) (o : Nat) (as : Nat → Nat) (M0 : xM) (N S : Nat) (d : Nat) (σ : mS) (W : Nat → Nat → Int) (m r c : Nat) (hm : m ≤ 20) (hc : c < 6) (hW : Wk σ W) (hbW : ∀ i j, i < m → j < 6 → -9223372036854775808 ≤ W i j ∧ W i j < 9223372036854775808) (M : xM) (hM : mAt o as σ M0 M) (Q : xPost) :
    ∀ (u k : Nat), k + u = m → xX G l YX9_rank d Q 70 [(0, .ref o), (1, .int (nI m)), (2, .int (nI r)), (3, .int (nI c)), (4, .int (nI (pivR W c u k)))] [] M N S → xX G l YX9_rank d Q 41 [(0, .ref o), (1, .int (nI m)), (2, .int (nI r)), (3, .int (nI c)), (4, .int (nI k))] [] M N S := by
  intro u
  induction u with
  | zero =>
    intro k hk hx
    obtain rfl : k = m := by omega
    refine x_iload (q := 43) dX9_rank_41 rfl rfl ?_
    refine x_iload_n (q := 44) dX9_rank_43 rfl rfl ?_
    refine xn_icmp_ge (q := 47) 70 dX9_rank_44 (by decide) rfl (by omega) (by omega) (fun hc44 => ?_) (fun hc44 => absurd hc44 (by omega))
    exact hx
  | succ u ih =>
    intro k hk hx
    have v1 := hW k c (by omega) hc
    have b1 := hbW k c (by omega) hc
    unfold pivR at hx
    refine x_iload (q := 43) dX9_rank_41 rfl rfl ?_
    refine x_iload_n (q := 44) dX9_rank_43 rfl rfl ?_
    refine xn_icmp_ge (q := 47) 70 dX9_rank_44 (by decide) rfl (by omega) (by omega) (fun hc44 => absurd hc44 (by omega)) (fun hc44 => ?_)
    refine x_aload_n (q := 48) dX9_rank_47 rfl rfl ?_
    refine m_get (q := 51) hM 26 fwX9_66 (by decide) dX9_rank_48 rfl rfl ?_
    refine xn_bipush (q := 53) 6 dX9_rank_51 rfl (by decide) ?_
    refine x_iload (q := 55) dX9_rank_53 rfl rfl ?_
    refine xn_imul (q := 56) dX9_rank_55 rfl ?_
    refine x_iload_n (q := 57) dX9_rank_56 rfl rfl ?_
    refine xn_iadd (q := 58) dX9_rank_57 rfl ?_
    refine m_lald (q := 59) hM (n := 126) (by decide) dX9_rank_58 rfl (by omega) ?_
    rw [v1]
    refine xn_lconst (q := 60) 0 dX9_rank_59 rfl (by decide) ?_
    refine xi_lcmp_ne (q1 := 61) (q := 64) 70 dX9_rank_60 rfl dX9_rank_61 (by decide) rfl rfl (lN_i' _) (by omega) (by omega) (by omega) (by omega) (fun hc60 => ?_) (fun hc60 => ?_)
    · rw [if_neg (show ¬ W k c = 0 from hc60)] at hx; exact hx
    · refine xn_iinc (q := 67) (ls' := [(0, _), (1, _), (2, _), (3, _), (4, _)]) [1, 2, 3, 4, 0] 1 dX9_rank_64 rfl rfl (by decide) (by decide) rfl ?_
      refine x_goto 41 dX9_rank_67 (by decide) ?_
      rw [if_pos (show W k c = 0 from hc60)] at hx; exact ih (k + 1) (by omega) hx
set_option maxRecDepth 100000 in
set_option maxHeartbeats 4000000 in
theorem c_rank_D (G : xG) (l : Launch) (o : Nat) (as : Nat → Nat) (M0 : xM) (N S : Nat) (d : Nat) (σ : mS) (W : Nat → Nat → Int) (m r c k : Nat) (hk : k < 21) (hr : r < 21) (Q : xPost)
    (hx : ∀ σ' M, onlyW σ σ' → Wk σ' (swRJ W k r 6) → mAt o as σ' M0 M → xX G l YX9_rank d Q 149 [(0, .ref o), (1, .int (nI m)), (2, .int (nI r)), (3, .int (nI c)), (4, .int (nI k)), (5, .int (nI 6))] [] M N S) :
    ∀ (u j : Nat), j + u = 6 → ∀ σ' M, onlyW σ σ' → Wk σ' (swRJ W k r j) → mAt o as σ' M0 M → xX G l YX9_rank d Q 82 [(0, .ref o), (1, .int (nI m)), (2, .int (nI r)), (3, .int (nI c)), (4, .int (nI k)), (5, .int (nI j))] [] M N S := by
  intro u
  induction u with
  | zero =>
    intro j hj σ' M ho hw hM
    obtain rfl : j = 6 := by omega
    refine x_iload (q := 84) dX9_rank_82 rfl rfl ?_
    refine xn_bipush (q := 86) 6 dX9_rank_84 rfl (by decide) ?_
    refine xn_icmp_ge (q := 89) 149 dX9_rank_86 (by decide) rfl (by omega) (by omega) (fun hc86 => ?_) (fun hc86 => absurd hc86 (by omega))
    exact hx σ' M ho hw hM
  | succ u ih =>
    intro j hj σ' M ho hw hM
    have v1 : σ'.2.2 26 (6 * k + j) = iL (W k j) := by have := hw k j hk (by omega); unfold swRJ at this; rw [if_neg (by omega)] at this; exact this
    have v2 : σ'.2.2 26 (6 * r + j) = iL (W r j) := by have := hw r j hr (by omega); unfold swRJ at this; rw [if_neg (by omega)] at this; exact this
    refine x_iload (q := 84) dX9_rank_82 rfl rfl ?_
    refine xn_bipush (q := 86) 6 dX9_rank_84 rfl (by decide) ?_
    refine xn_icmp_ge (q := 89) 149 dX9_rank_86 (by decide) rfl (by omega) (by omega) (fun hc86 => absurd hc86 (by omega)) (fun hc86 => ?_)
    refine x_aload_n (q := 90) dX9_rank_89 rfl rfl ?_
    refine m_get (q := 93) hM 26 fwX9_66 (by decide) dX9_rank_90 rfl rfl ?_
    refine xn_bipush (q := 95) 6 dX9_rank_93 rfl (by decide) ?_
    refine x_iload (q := 97) dX9_rank_95 rfl rfl ?_
    refine xn_imul (q := 98) dX9_rank_97 rfl ?_
    refine x_iload (q := 100) dX9_rank_98 rfl rfl ?_
    refine xn_iadd (q := 101) dX9_rank_100 rfl ?_
    refine m_lald (q := 102) hM (n := 126) (by decide) dX9_rank_101 rfl (by omega) ?_
    rw [v1]
    refine x_lstore (q := 104) (ls' := [(0, _), (1, _), (2, _), (3, _), (4, _), (5, _), (6, _)]) [1, 2, 3, 4, 5, 6, 0] dX9_rank_102 rfl (by decide) rfl ?_
    refine x_aload_n (q := 105) dX9_rank_104 rfl rfl ?_
    refine m_get (q := 108) hM 26 fwX9_66 (by decide) dX9_rank_105 rfl rfl ?_
    refine xn_bipush (q := 110) 6 dX9_rank_108 rfl (by decide) ?_
    refine x_iload (q := 112) dX9_rank_110 rfl rfl ?_
    refine xn_imul (q := 113) dX9_rank_112 rfl ?_
    refine x_iload (q := 115) dX9_rank_113 rfl rfl ?_
    refine xn_iadd (q := 116) dX9_rank_115 rfl ?_
    refine x_aload_n (q := 117) dX9_rank_116 rfl rfl ?_
    refine m_get (q := 120) hM 26 fwX9_66 (by decide) dX9_rank_117 rfl rfl ?_
    refine xn_bipush (q := 122) 6 dX9_rank_120 rfl (by decide) ?_
    refine x_iload_n (q := 123) dX9_rank_122 rfl rfl ?_
    refine xn_imul (q := 124) dX9_rank_123 rfl ?_
    refine x_iload (q := 126) dX9_rank_124 rfl rfl ?_
    refine xn_iadd (q := 127) dX9_rank_126 rfl ?_
    refine m_lald (q := 128) hM (n := 126) (by decide) dX9_rank_127 rfl (by omega) ?_
    rw [v2]
    refine m_lastG (q := 129) hM (n := 126) (by decide) dX9_rank_128 rfl (by omega) (fun M σ128 a128 b128 c128 e128 f128 hM => ?_)
    refine x_aload_n (q := 130) dX9_rank_129 rfl rfl ?_
    refine m_get (q := 133) hM 26 fwX9_66 (by decide) dX9_rank_130 rfl rfl ?_
    refine xn_bipush (q := 135) 6 dX9_rank_133 rfl (by decide) ?_
    refine x_iload_n (q := 136) dX9_rank_135 rfl rfl ?_
    refine xn_imul (q := 137) dX9_rank_136 rfl ?_
    refine x_iload (q := 139) dX9_rank_137 rfl rfl ?_
    refine xn_iadd (q := 140) dX9_rank_139 rfl ?_
    refine x_lload (q := 142) dX9_rank_140 rfl rfl ?_
    refine m_lastG (q := 143) hM (n := 126) (by decide) dX9_rank_142 rfl (by omega) (fun M σ142 a142 b142 c142 e142 f142 hM => ?_)
    refine xn_iinc (q := 146) (ls' := [(0, _), (1, _), (2, _), (3, _), (4, _), (5, _), (6, _)]) [1, 2, 3, 4, 5, 0, 6] 1 dX9_rank_143 rfl rfl (by decide) (by decide) rfl ?_
    refine x_goto 82 dX9_rank_146 (by decide) ?_
    refine x_ls (ls' := [(0, _), (1, _), (2, _), (3, _), (4, _), (5, _)]) [0, 1, 2, 3, 4, 5] rfl ?_
    refine ih (j + 1) (by omega) σ142 M (ho.trans (onlyW.trans ⟨a128, b128, c128⟩ ⟨a142, b142, c142⟩)) (fun i' j' h1 h2 => ?_) hM
    unfold swRJ swR
    by_cases e : 6 * i' + j' = 6 * r + j
    · have e1 : i' = r := by omega
      have e2 : j' = j := by omega
      rw [e1, e2, e142, if_pos (by omega)]
      by_cases f : r = k
      · rw [if_pos f, f]
      · rw [if_neg f, if_pos rfl]
    · rw [f142 _ e]
      by_cases g : 6 * i' + j' = 6 * k + j
      · have e1 : i' = k := by omega
        have e2 : j' = j := by omega
        rw [e1, e2, e128, if_pos (by omega), if_pos rfl]
      · rw [f128 _ g]
        have := hw i' j' h1 h2
        unfold swRJ swR at this
        by_cases q : j' < j
        · rw [if_pos (by omega)]; rw [if_pos q] at this; exact this
        · by_cases q2 : j' = j
          · rw [if_neg q] at this; rw [if_pos (by omega), if_neg (by omega), if_neg (by omega)]; exact this
          · rw [if_neg (by omega)]; rw [if_neg q] at this; exact this
set_option maxRecDepth 100000 in
set_option maxHeartbeats 4000000 in
theorem c_rank_E (G : xG) (l : Launch) (o : Nat) (as : Nat → Nat) (M0 : xM) (N S : Nat) (d : Nat) (σ : mS) (W : Nat → Nat → Int) (m r c k : Nat) (hm : m ≤ 20) (hrm : r < m) (hc : c < 6) (hb : ∀ t, t < m - 1 - r → ∀ j, j < 6 → (clrV (clrs W r c t) (r + 1 + t) r c j).natAbs < 9223372036854775808) (Q : xPost)
    (hx : ∀ σ' M, onlyW σ σ' → Wk σ' (clrs W r c (m - 1 - r)) → mAt o as σ' M0 M → xX G l YX9_rank (d + 2) Q 174 [(0, .ref o), (1, .int (nI m)), (2, .int (nI r)), (3, .int (nI c)), (4, .int (nI k)), (5, .int (nI m))] [] M N S) :
    ∀ (u t : Nat), t + u = m - 1 - r → ∀ σ' M, onlyW σ σ' → Wk σ' (clrs W r c t) → mAt o as σ' M0 M → xX G l YX9_rank (d + 2) Q 154 [(0, .ref o), (1, .int (nI m)), (2, .int (nI r)), (3, .int (nI c)), (4, .int (nI k)), (5, .int (nI (r + 1 + t)))] [] M N S := by
  intro u
  induction u with
  | zero =>
    intro t ht σ' M ho hw hM
    have e : r + 1 + t = m := by omega
    rw [show t = m - 1 - r by omega] at hw
    rw [e]
    refine x_iload (q := 156) dX9_rank_154 rfl rfl ?_
    refine x_iload_n (q := 157) dX9_rank_156 rfl rfl ?_
    refine xn_icmp_ge (q := 160) 174 dX9_rank_157 (by decide) rfl (by omega) (by omega) (fun hc157 => ?_) (fun hc157 => absurd hc157 (by omega))
    exact hx σ' M ho hw hM
  | succ u ih =>
    intro t ht σ' M ho hw hM
    refine x_iload (q := 156) dX9_rank_154 rfl rfl ?_
    refine x_iload_n (q := 157) dX9_rank_156 rfl rfl ?_
    refine xn_icmp_ge (q := 160) 174 dX9_rank_157 (by decide) rfl (by omega) (by omega) (fun hc157 => absurd hc157 (by omega)) (fun hc157 => ?_)
    refine x_aload_n (q := 161) dX9_rank_160 rfl rfl ?_
    refine x_iload (q := 163) dX9_rank_161 rfl rfl ?_
    refine x_iload_n (q := 164) dX9_rank_163 rfl rfl ?_
    refine x_iload_n (q := 165) dX9_rank_164 rfl rfl ?_
    refine m_call (q := 168) (As := [_, _, _]) hM imX9_clear ivX9_clear ilX9_clear mwX9_231 xciX9 dX9_rank_165 rfl rfl rfl (Nat.le_of_ble_eq_true rfl) ?_
    refine (c_clear G l o as M0 N S d σ' (clrs W r c t) (r + 1 + t) r c (by omega) (by omega) (by omega) hc (hb t (by omega)) hw).mono (fun x σ9 hp => ?_)
    obtain ⟨rfl, o9, w9⟩ := hp
    intro M hM
    show xX G l _ (d + 2) _ _ _ [] M N S
    refine xn_iinc (q := 171) (ls' := [(0, _), (1, _), (2, _), (3, _), (4, _), (5, _)]) [1, 2, 3, 4, 5, 0] 1 dX9_rank_168 rfl rfl (by decide) (by decide) rfl ?_
    refine x_goto 154 dX9_rank_171 (by decide) ?_
    exact ih (t + 1) (by omega) σ9 M (ho.trans o9) w9 hM
def rkBd (W : Nat → Nat → Int) (n : Nat) : Prop := ∀ c, c < 6 → ∀ i j, i < n → j < 6 → (rkS W n c).1 i j < 9223372036854775808 ∧ -9223372036854775808 ≤ (rkS W n c).1 i j
set_option maxRecDepth 100000 in
set_option maxHeartbeats 4000000 in
theorem c_rank_B (G : xG) (l : Launch) (o : Nat) (as : Nat → Nat) (M0 : xM) (N S : Nat) (d : Nat) (σ : mS) (W : Nat → Nat → Int) (m : Nat) (hm : m ≤ 20) (hok : rkOk W m) (hbd : rkBd W m) :
    ∀ (u c : Nat), c + u = 6 → ∀ σ' M, onlyW σ σ' → Wk σ' (rkS W m c).1 → mAt o as σ' M0 M → xX G l YX9_rank (d + 2) (mQ o as M0 N S (fun x σ' => x = some (.int (nI (rkS W m 6).2)) ∧ onlyW σ σ')) 32 [(0, .ref o), (1, .int (nI m)), (2, .int (nI (rkS W m c).2)), (3, .int (nI c))] [] M N S := by
  intro u
  induction u with
  | zero =>
    intro c hc σ' M ho hw hM
    obtain rfl : c = 6 := by omega
    have hle := rkS_le W m 6
    refine x_iload_n (q := 33) dX9_rank_32 rfl rfl ?_
    refine xn_bipush (q := 35) 6 dX9_rank_33 rfl (by decide) ?_
    refine xn_icmp_ge (q := 38) 183 dX9_rank_35 (by decide) rfl (by omega) (by omega) (fun hc35 => ?_) (fun hc35 => absurd hc35 (by omega))
    refine x_iload_n (q := 184) dX9_rank_183 rfl rfl ?_
    exact x_iret rfl dX9_rank_184 (m_ret hM ⟨rfl, ho⟩)
  | succ u ih =>
    intro c hc σ' M ho hw hM
    have hle := rkS_le W m c
    have hpv := pivR_ge (rkS W m c).1 c (m - (rkS W m c).2) (rkS W m c).2
    have hih := ih (c + 1) (by omega)
    have hok1 := hok c (by omega)
    have hbd1 := hbd c (by omega)
    unfold rkS at hih
    generalize rkS W m c = pr at *
    obtain ⟨V, r⟩ := pr
    dsimp only at *
    generalize hp : pivR V c (m - r) r = p at *
    refine x_iload_n (q := 33) dX9_rank_32 rfl rfl ?_
    refine xn_bipush (q := 35) 6 dX9_rank_33 rfl (by decide) ?_
    refine xn_icmp_ge (q := 38) 183 dX9_rank_35 (by decide) rfl (by omega) (by omega) (fun hc35 => absurd hc35 (by omega)) (fun hc35 => ?_)
    refine x_iload_n (q := 39) dX9_rank_38 rfl rfl ?_
    refine x_istore (q := 41) (ls' := [(0, _), (1, _), (2, _), (3, _), (4, _)]) [1, 2, 3, 4, 0] dX9_rank_39 rfl (by decide) rfl ?_
    refine c_rank_C G l o as M0 N S (d + 2) σ' V m r c hm (by omega) hw (fun i j hi hj => ⟨(hbd1 i j hi hj).2, (hbd1 i j hi hj).1⟩) M hM _ (m - r) r (by omega) ?_
    rw [hp]
    refine x_iload (q := 72) dX9_rank_70 rfl rfl ?_
    refine x_iload_n (q := 73) dX9_rank_72 rfl rfl ?_
    refine xn_icmp_ne (q := 76) 79 dX9_rank_73 (by decide) rfl (by omega) (by omega) (fun hc73 => ?_) (fun hc73 => ?_)
    · refine xn_iconst (q := 80) 0 dX9_rank_79 rfl (by decide) ?_
      refine x_istore (q := 82) (ls' := [(0, _), (1, _), (2, _), (3, _), (4, _), (5, _)]) [1, 2, 3, 4, 5, 0] dX9_rank_80 rfl (by decide) rfl ?_
      refine c_rank_D G l o as M0 N S (d + 2) σ' V m r c p (by omega) (by omega) _ (fun σ1 M o1 w1 hM => ?_) 6 0 (Nat.zero_add _) σ' M onlyW.rfl' (fun i j h1 h2 => by unfold swRJ; rw [if_neg (Nat.not_lt_zero j)]; exact hw i j h1 h2) hM
      have w1' : Wk σ1 (swR V p r) := fun i j h1 h2 => by have := w1 i j h1 h2; unfold swRJ at this; rw [if_pos h2] at this; exact this
      refine x_iload_n (q := 150) dX9_rank_149 rfl rfl ?_
      refine xn_iconst (q := 151) 1 dX9_rank_150 rfl (by decide) ?_
      refine xn_iadd (q := 152) dX9_rank_151 rfl ?_
      refine x_istore (q := 154) (ls' := [(0, _), (1, _), (2, _), (3, _), (4, _), (5, _)]) [1, 2, 3, 4, 5, 0] dX9_rank_152 rfl (by decide) rfl ?_
      refine c_rank_E G l o as M0 N S d σ1 (swR V p r) m r c p hm (by omega) (by omega) (hok1 hc73) _ (fun σ2 M o2 w2 hM => ?_) (m - 1 - r) 0 (Nat.zero_add _) σ1 M onlyW.rfl' w1' hM
      refine xn_iinc (q := 177) (ls' := [(0, _), (1, _), (2, _), (3, _), (4, _), (5, _)]) [1, 2, 0, 3, 4, 5] 1 dX9_rank_174 rfl rfl (by decide) (by decide) rfl ?_
      refine xn_iinc (q := 180) (ls' := [(0, _), (1, _), (2, _), (3, _), (4, _), (5, _)]) [1, 2, 3, 0, 4, 5] 1 dX9_rank_177 rfl rfl (by decide) (by decide) rfl ?_
      refine x_goto 32 dX9_rank_180 (by decide) ?_
      refine x_ls (ls' := [(0, _), (1, _), (2, _), (3, _)]) [0, 1, 2, 3] rfl ?_
      rw [if_neg hc73] at hih
      exact hih σ2 M (ho.trans (o1.trans o2)) w2 hM
    · refine x_goto 177 dX9_rank_76 (by decide) ?_
      refine xn_iinc (q := 180) (ls' := [(0, _), (1, _), (2, _), (3, _), (4, _)]) [1, 2, 3, 0, 4] 1 dX9_rank_177 rfl rfl (by decide) (by decide) rfl ?_
      refine x_goto 32 dX9_rank_180 (by decide) ?_
      refine x_ls (ls' := [(0, _), (1, _), (2, _), (3, _)]) [0, 1, 2, 3] rfl ?_
      rw [if_pos hc73] at hih
      exact hih σ' M ho hw hM
set_option maxRecDepth 100000 in
set_option maxHeartbeats 4000000 in
theorem c_rank (G : xG) (l : Launch) (o : Nat) (as : Nat → Nat) (M0 : xM) (N S : Nat) (d : Nat) (σ : mS) (R : Nat → Nat → Int) (m k : Nat) (hm : m ≤ 20) (hmk : m ≤ k) (hR : Lns σ R k) (hok : ∀ W : Nat → Nat → Int, (∀ i j, i < m → j < 6 → W i j = R i j) → rkOk W m ∧ rkBd W m) : mC G l o as M0 N S YX9_rank (d + 2) [.int (nI m)] σ (fun x σ' => onlyW σ σ' ∧ ∃ W : Nat → Nat → Int, (∀ i j, i < m → j < 6 → W i j = R i j) ∧ x = some (.int (nI (rkS W m 6).2))) := by
  refine mC.of (ls := [(0, .ref o), (1, .int (nI m))]) (by decide) (Nat.le_of_ble_eq_true rfl) rfl fun M hM => ?_
  refine xn_iconst (q := 1) 0 dX9_rank_0 rfl (by decide) ?_
  refine x_istore_n (q := 2) (ls' := [(0, _), (1, _), (2, _)]) [1, 2, 0] dX9_rank_1 rfl (by decide) rfl ?_
  refine c_rank_A G l o as M0 N S (d + 2) σ m hm _ (fun σ1 M o1 w1 hM => ?_) (6 * m) 0 (Nat.zero_add _) σ M onlyW.rfl' (fun t h => absurd h (Nat.not_lt_zero t)) hM
  have hWR : ∀ i j, i < m → j < 6 → (fun i j => if i < m then R i j else (σ1.2.2 26 (6 * i + j)).toInt) i j = R i j := fun i j hi _ => if_pos hi
  obtain ⟨k1, k2⟩ := hok _ hWR
  have hw : Wk σ1 (fun i j => if i < m then R i j else (σ1.2.2 26 (6 * i + j)).toInt) := fun i j hi hj => by
    show σ1.2.2 26 (6 * i + j) = iL (if i < m then R i j else (σ1.2.2 26 (6 * i + j)).toInt)
    by_cases e : i < m
    · rw [if_pos e, w1 _ (by omega)]; exact hR.2 i j (by omega) hj
    · rw [if_neg e]; exact iL_self _
  generalize (fun i j => if i < m then R i j else (σ1.2.2 26 (6 * i + j)).toInt) = W at *
  refine xn_iconst (q := 29) 0 dX9_rank_28 rfl (by decide) ?_
  refine x_istore_n (q := 30) (ls' := [(0, _), (1, _), (2, _)]) [1, 2, 0] dX9_rank_29 rfl (by decide) rfl ?_
  refine xn_iconst (q := 31) 0 dX9_rank_30 rfl (by decide) ?_
  refine x_istore_n (q := 32) (ls' := [(0, _), (1, _), (2, _), (3, _)]) [1, 2, 3, 0] dX9_rank_31 rfl (by decide) rfl ?_
  have h5 := c_rank_B G l o as M0 N S d σ W m hm k1 k2 6 0 (Nat.zero_add _) σ1 M o1 hw hM
  refine xX.post h5 (fun x M' N' S' hp => ?_)
  obtain ⟨z1, z2, σ9, z3, z4, z5⟩ := hp
  exact ⟨z1, z2, σ9, z3, z5, W, hWR, z4⟩
end XM1
