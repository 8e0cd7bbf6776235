section XL
def clrV (W : Nat → Nat → Int) (i k c j : Nat) : Int := W k c * W i j - W i c * W k j
def gcdU (f : Nat → Int) : Nat → Nat
  | 0 => 0
  | j + 1 => Nat.gcd (gcdU f j) (f j).natAbs
def clrM (W : Nat → Nat → Int) (i k c : Nat) : Nat → Nat → Int := fun i' j => if i' = i then (if 1 < gcdU (clrV W i k c) 6 then (clrV W i k c j).tdiv (gcdU (clrV W i k c) 6) else clrV W i k c j) else W i' j
def clr1 (W : Nat → Nat → Int) (i k c j : Nat) : Nat → Nat → Int := fun i' j' => if i' = i ∧ j' < j then clrV W i k c j' else W i' j'
def clr2 (W : Nat → Nat → Int) (i k c j : Nat) : Nat → Nat → Int := fun i' j' => if i' = i then (if j' < j then (clrV W i k c j').tdiv (gcdU (clrV W i k c) 6) else clrV W i k c j') else W i' j'
def Wk (σ : mS) (W : Nat → Nat → Int) : Prop := ∀ i j, i < 21 → j < 6 → σ.2.2 26 (6 * i + j) = iL (W i j)
def onlyW (σ σ' : mS) : Prop := σ'.1 = σ.1 ∧ σ'.2.1 = σ.2.1 ∧ ∀ k, k ≠ 26 → σ'.2.2 k = σ.2.2 k
theorem onlyW.rfl' {σ : mS} : onlyW σ σ := ⟨rfl, rfl, fun _ _ => rfl⟩
theorem onlyW.trans {σ σ' σ'' : mS} (h : onlyW σ σ') (h2 : onlyW σ' σ'') : onlyW σ σ'' := ⟨h2.1.trans h.1, h2.2.1.trans h.2.1, fun k hk => (h2.2.2 k hk).trans (h.2.2 k hk)⟩
theorem Wk.put {σ σ' : mS} {W V : Nat → Nat → Int} {i j : Nat} (h : Wk σ W) (hj : j < 6) (e : σ'.2.2 26 (6 * i + j) = iL (V i j)) (f : ∀ t, t ≠ 6 * i + j → σ'.2.2 26 t = σ.2.2 26 t) (ho : ∀ i' j', i' < 21 → j' < 6 → (i' ≠ i ∨ j' ≠ j) → V i' j' = W i' j') : Wk σ' V := fun i' j' hi' hj' => by
  by_cases q : i' = i ∧ j' = j
  · rw [q.1, q.2]; exact e
  · rw [f _ (by omega), ho i' j' hi' hj' (by omega)]; exact h i' j' hi' hj'
theorem gcdU_le {f : Nat → Int} {K : Nat} (hK : 0 < K) (h : ∀ j, j < 6 → (f j).natAbs < K) : ∀ t, t ≤ 6 → gcdU f t < K
  | 0, _ => hK
  | t + 1, ht => by
    show Nat.gcd (gcdU f t) (f t).natAbs < K
    by_cases e : (f t).natAbs = 0
    · rw [e, Nat.gcd_zero_right]; exact gcdU_le hK h t (by omega)
    · exact Nat.lt_of_le_of_lt (Nat.gcd_le_right _ (Nat.pos_of_ne_zero e)) (h t (by omega))
set_option maxRecDepth 100000 in
set_option maxHeartbeats 4000000 in
theorem c_clear_1 (G : xG) (l : Launch) (o : Nat) (as : Nat → Nat) (M0 : xM) (N S : Nat) (d : Nat) (σ : mS) (W : Nat → Nat → Int) (i k c : Nat) (hi : i < 21) (hk : k < 21) (hik : i ≠ k) (hc : c < 6) (hb : ∀ j, j < 6 → (clrV W i k c j).natAbs < 9223372036854775808) (Q : xPost)
    (hx : ∀ σ' M, onlyW σ σ' → Wk σ' (clr1 W i k c 6) → mAt o as σ' M0 M → xX G l YX9_clear (d + 1) Q 107 [(0, .ref o), (1, .int (nI i)), (2, .int (nI k)), (3, .int (nI c)), (4, .long (iL (W k c))), (6, .long (iL (W i c))), (8, .long (lN (gcdU (clrV W i k c) 6))), (10, .int (nI 6))] [] M N S) :
    ∀ (u j : Nat), j + u = 6 → ∀ σ' M, onlyW σ σ' → Wk σ' (clr1 W i k c j) → mAt o as σ' M0 M → xX G l YX9_clear (d + 1) Q 32 [(0, .ref o), (1, .int (nI i)), (2, .int (nI k)), (3, .int (nI c)), (4, .long (iL (W k c))), (6, .long (iL (W i c))), (8, .long (lN (gcdU (clrV W i k c) j))), (10, .int (nI j))] [] M N S := by
  have hgl : ∀ t, t ≤ 6 → gcdU (clrV W i k c) t < 9223372036854775808 := gcdU_le (by decide) hb
  intro u
  induction u with
  | zero =>
    intro j hj σ' M ho hw hM
    obtain rfl : j = 6 := by omega
    refine x_iload (q := 34) dX9_clear_32 rfl rfl ?_
    refine xn_bipush (q := 36) 6 dX9_clear_34 rfl (by decide) ?_
    refine xn_icmp_ge (q := 39) 107 dX9_clear_36 (by decide) rfl (by omega) (by omega) (fun hc36 => ?_) (fun hc36 => absurd hc36 (by omega))
    exact hx σ' M ho hw hM
  | succ u ih =>
    intro j hj σ' M ho hw hM
    have v1 : σ'.2.2 26 (6 * i + j) = iL (W i j) := by have := hw i j hi (by omega); unfold clr1 at this; rw [if_neg (by omega)] at this; exact this
    have v2 : σ'.2.2 26 (6 * k + j) = iL (W k j) := by have := hw k j hk (by omega); unfold clr1 at this; rw [if_neg (by omega)] at this; exact this
    have hbj := hb j (by omega)
    have hgj := hgl j (by omega)
    refine x_iload (q := 34) dX9_clear_32 rfl rfl ?_
    refine xn_bipush (q := 36) 6 dX9_clear_34 rfl (by decide) ?_
    refine xn_icmp_ge (q := 39) 107 dX9_clear_36 (by decide) rfl (by omega) (by omega) (fun hc36 => absurd hc36 (by omega)) (fun hc36 => ?_)
    refine x_aload_n (q := 40) dX9_clear_39 rfl rfl ?_
    refine m_get (q := 43) hM 26 fwX9_66 (by decide) dX9_clear_40 rfl rfl ?_
    refine xn_bipush (q := 45) 6 dX9_clear_43 rfl (by decide) ?_
    refine x_iload_n (q := 46) dX9_clear_45 rfl rfl ?_
    refine xn_imul (q := 47) dX9_clear_46 rfl ?_
    refine x_iload (q := 49) dX9_clear_47 rfl rfl ?_
    refine xn_iadd (q := 50) dX9_clear_49 rfl ?_
    refine x_lload (q := 52) dX9_clear_50 rfl rfl ?_
    refine x_aload_n (q := 53) dX9_clear_52 rfl rfl ?_
    refine m_get (q := 56) hM 26 fwX9_66 (by decide) dX9_clear_53 rfl rfl ?_
    refine xn_bipush (q := 58) 6 dX9_clear_56 rfl (by decide) ?_
    refine x_iload_n (q := 59) dX9_clear_58 rfl rfl ?_
    refine xn_imul (q := 60) dX9_clear_59 rfl ?_
    refine x_iload (q := 62) dX9_clear_60 rfl rfl ?_
    refine xn_iadd (q := 63) dX9_clear_62 rfl ?_
    refine m_lald (q := 64) hM (n := 126) (by decide) dX9_clear_63 rfl (by omega) ?_
    rw [v1]
    refine xi_lmul (q := 65) dX9_clear_64 rfl rfl rfl ?_
    refine x_lload (q := 67) dX9_clear_65 rfl rfl ?_
    refine x_aload_n (q := 68) dX9_clear_67 rfl rfl ?_
    refine m_get (q := 71) hM 26 fwX9_66 (by decide) dX9_clear_68 rfl rfl ?_
    refine xn_bipush (q := 73) 6 dX9_clear_71 rfl (by decide) ?_
    refine x_iload_n (q := 74) dX9_clear_73 rfl rfl ?_
    refine xn_imul (q := 75) dX9_clear_74 rfl ?_
    refine x_iload (q := 77) dX9_clear_75 rfl rfl ?_
    refine xn_iadd (q := 78) dX9_clear_77 rfl ?_
    refine m_lald (q := 79) hM (n := 126) (by decide) dX9_clear_78 rfl (by omega) ?_
    rw [v2]
    refine xi_lmul (q := 80) dX9_clear_79 rfl rfl rfl ?_
    refine xi_lsub (q := 81) dX9_clear_80 rfl rfl rfl ?_
    refine m_lastG (q := 82) hM (n := 126) (by decide) dX9_clear_81 rfl (by omega) (fun M σ81 a81 b81 c81 e81 f81 hM => ?_)
    refine x_lload (q := 84) dX9_clear_82 rfl rfl ?_
    refine x_aload_n (q := 85) dX9_clear_84 rfl rfl ?_
    refine m_get (q := 88) hM 26 fwX9_66 (by decide) dX9_clear_85 rfl rfl ?_
    refine xn_bipush (q := 90) 6 dX9_clear_88 rfl (by decide) ?_
    refine x_iload_n (q := 91) dX9_clear_90 rfl rfl ?_
    refine xn_imul (q := 92) dX9_clear_91 rfl ?_
    refine x_iload (q := 94) dX9_clear_92 rfl rfl ?_
    refine xn_iadd (q := 95) dX9_clear_94 rfl ?_
    refine m_lald (q := 96) hM (n := 126) (by decide) dX9_clear_95 rfl (by omega) ?_
    rw [e81]
    refine x_callS (q := 99) (As := [_, _]) imX9_common isX9_common mwX9_227 dX9_clear_96 rfl rfl rfl (Nat.le_of_ble_eq_true rfl) ?_
    refine (c_common G l M N S d _ _ (gcdU (clrV W i k c) j : Nat) (clrV W i k c j) (by rw [lN_i']; exact iL_t (by omega) (by omega)) (iL_t (by omega) (by omega)) (by omega) (by omega)).mono (fun r M' N' S' hp => ?_)
    obtain ⟨rfl, e1, e2, e3⟩ := hp
    rw [e1, e2, e3]
    show xX G l _ (d + 1) _ _ _ [.long (lN (Nat.gcd ((gcdU (clrV W i k c) j : Nat) : Int).natAbs (clrV W i k c j).natAbs))] _ _ _
    rw [Int.natAbs_natCast]
    refine x_lstore (q := 101) (ls' := [(0, _), (1, _), (2, _), (3, _), (4, _), (6, _), (8, _), (10, _)]) [1, 2, 3, 4, 5, 6, 0, 7] dX9_clear_99 rfl (by decide) rfl ?_
    refine xn_iinc (q := 104) (ls' := [(0, _), (1, _), (2, _), (3, _), (4, _), (6, _), (8, _), (10, _)]) [1, 2, 3, 4, 5, 6, 7, 0] 1 dX9_clear_101 rfl rfl (by decide) (by decide) rfl ?_
    refine x_goto 32 dX9_clear_104 (by decide) ?_
    refine ih (j + 1) (by omega) σ81 M (ho.trans ⟨a81, b81, c81⟩) (Wk.put hw (by omega) (by unfold clr1; rw [e81, if_pos ⟨rfl, by omega⟩]; rfl) f81 (fun i' j' _ _ h => ?_)) hM
    unfold clr1
    by_cases e : i' = i ∧ j' < j
    · rw [if_pos e, if_pos (by omega)]
    · rw [if_neg e, if_neg (by omega)]
set_option maxRecDepth 100000 in
set_option maxHeartbeats 4000000 in
theorem c_clear_2 (G : xG) (l : Launch) (o : Nat) (as : Nat → Nat) (M0 : xM) (N S : Nat) (d : Nat) (σ : mS) (W : Nat → Nat → Int) (i k c : Nat) (hi : i < 21) (hb : ∀ j, j < 6 → (clrV W i k c j).natAbs < 9223372036854775808) (hg : 1 < gcdU (clrV W i k c) 6) (Q : xPost)
    (hx : ∀ σ' M, onlyW σ σ' → Wk σ' (clr2 W i k c 6) → mAt o as σ' M0 M → xX G l YX9_clear d Q 147 [(0, .ref o), (1, .int (nI i)), (2, .int (nI k)), (3, .int (nI c)), (4, .long (iL (W k c))), (6, .long (iL (W i c))), (8, .long (lN (gcdU (clrV W i k c) 6))), (10, .int (nI 6))] [] M N S) :
    ∀ (u j : Nat), j + u = 6 → ∀ σ' M, onlyW σ σ' → Wk σ' (clr2 W i k c j) → mAt o as σ' M0 M → xX G l YX9_clear d Q 110 [(0, .ref o), (1, .int (nI i)), (2, .int (nI k)), (3, .int (nI c)), (4, .long (iL (W k c))), (6, .long (iL (W i c))), (8, .long (lN (gcdU (clrV W i k c) 6))), (10, .int (nI j))] [] M N S := by
  have hgl : gcdU (clrV W i k c) 6 < 9223372036854775808 := gcdU_le (by decide) hb 6 (by decide)
  intro u
  induction u with
  | zero =>
    intro j hj σ' M ho hw hM
    obtain rfl : j = 6 := by omega
    refine x_iload (q := 112) dX9_clear_110 rfl rfl ?_
    refine xn_bipush (q := 114) 6 dX9_clear_112 rfl (by decide) ?_
    refine xn_icmp_ge (q := 117) 147 dX9_clear_114 (by decide) rfl (by omega) (by omega) (fun hc114 => ?_) (fun hc114 => absurd hc114 (by omega))
    exact hx σ' M ho hw hM
  | succ u ih =>
    intro j hj σ' M ho hw hM
    have v1 : σ'.2.2 26 (6 * i + j) = iL (clrV W i k c j) := by have := hw i j hi (by omega); unfold clr2 at this; rw [if_pos rfl, if_neg (by omega)] at this; exact this
    have hbj := hb j (by omega)
    refine x_iload (q := 112) dX9_clear_110 rfl rfl ?_
    refine xn_bipush (q := 114) 6 dX9_clear_112 rfl (by decide) ?_
    refine xn_icmp_ge (q := 117) 147 dX9_clear_114 (by decide) rfl (by omega) (by omega) (fun hc114 => absurd hc114 (by omega)) (fun hc114 => ?_)
    refine x_lload (q := 119) dX9_clear_117 rfl rfl ?_
    refine xn_lconst (q := 120) 1 dX9_clear_119 rfl (by decide) ?_
    refine xn_lcmp_le (q1 := 121) (q := 124) 147 dX9_clear_120 rfl dX9_clear_121 (by decide) rfl (by omega) (by omega) (fun hc120 => absurd hc120 (by omega)) (fun hc120 => ?_)
    refine x_aload_n (q := 125) dX9_clear_124 rfl rfl ?_
    refine m_get (q := 128) hM 26 fwX9_66 (by decide) dX9_clear_125 rfl rfl ?_
    refine xn_bipush (q := 130) 6 dX9_clear_128 rfl (by decide) ?_
    refine x_iload_n (q := 131) dX9_clear_130 rfl rfl ?_
    refine xn_imul (q := 132) dX9_clear_131 rfl ?_
    refine x_iload (q := 134) dX9_clear_132 rfl rfl ?_
    refine xn_iadd (q := 135) dX9_clear_134 rfl ?_
    refine x_dup2 (q := 136) dX9_clear_135 rfl rfl rfl ?_
    refine m_lald (q := 137) hM (n := 126) (by decide) dX9_clear_136 rfl (by omega) ?_
    rw [v1]
    refine x_lload (q := 139) dX9_clear_137 rfl rfl ?_
    refine xi_ldiv (q := 140) dX9_clear_139 rfl rfl (lN_i' _) (by omega) (by omega) (by omega) (by omega) trivial ?_
    refine m_lastG (q := 141) hM (n := 126) (by decide) dX9_clear_140 rfl (by omega) (fun M σ140 a140 b140 c140 e140 f140 hM => ?_)
    refine xn_iinc (q := 144) (ls' := [(0, _), (1, _), (2, _), (3, _), (4, _), (6, _), (8, _), (10, _)]) [1, 2, 3, 4, 5, 6, 7, 0] 1 dX9_clear_141 rfl rfl (by decide) (by decide) rfl ?_
    refine x_goto 110 dX9_clear_144 (by decide) ?_
    refine ih (j + 1) (by omega) σ140 M (ho.trans ⟨a140, b140, c140⟩) (Wk.put hw (by omega) (by unfold clr2; rw [e140, if_pos rfl, if_pos (by omega)]) f140 (fun i' j' _ _ h => ?_)) hM
    unfold clr2
    by_cases e : i' = i
    · rw [if_pos e, if_pos e]
      by_cases f : j' < j
      · rw [if_pos f, if_pos (by omega)]
      · rw [if_neg f, if_neg (by omega)]
    · rw [if_neg e, if_neg e]
set_option maxRecDepth 100000 in
set_option maxHeartbeats 4000000 in
theorem c_clear (G : xG) (l : Launch) (o : Nat) (as : Nat → Nat) (M0 : xM) (N S : Nat) (d : Nat) (σ : mS) (W : Nat → Nat → Int) (i k c : Nat) (hi : i < 21) (hk : k < 21) (hik : i ≠ k) (hc : c < 6) (hb : ∀ j, j < 6 → (clrV W i k c j).natAbs < 9223372036854775808) (hW : Wk σ W) : mC G l o as M0 N S YX9_clear (d + 1) [.int (nI i), .int (nI k), .int (nI c)] σ (fun x σ' => x = none ∧ onlyW σ σ' ∧ Wk σ' (clrM W i k c)) := by
  have hgl : gcdU (clrV W i k c) 6 < 9223372036854775808 := gcdU_le (by decide) hb 6 (by decide)
  have v1 := hW k c hk hc
  have v2 := hW i c hi hc
  refine mC.of (ls := [(0, .ref o), (1, .int (nI i)), (2, .int (nI k)), (3, .int (nI c))]) (by decide) (Nat.le_of_ble_eq_true rfl) rfl fun M hM => ?_
  refine x_aload_n (q := 1) dX9_clear_0 rfl rfl ?_
  refine m_get (q := 4) hM 26 fwX9_66 (by decide) dX9_clear_1 rfl rfl ?_
  refine xn_bipush (q := 6) 6 dX9_clear_4 rfl (by decide) ?_
  refine x_iload_n (q := 7) dX9_clear_6 rfl rfl ?_
  refine xn_imul (q := 8) dX9_clear_7 rfl ?_
  refine x_iload_n (q := 9) dX9_clear_8 rfl rfl ?_
  refine xn_iadd (q := 10) dX9_clear_9 rfl ?_
  refine m_lald (q := 11) hM (n := 126) (by decide) dX9_clear_10 rfl (by omega) ?_
  rw [v1]
  refine x_lstore (q := 13) (ls' := [(0, _), (1, _), (2, _), (3, _), (4, _)]) [1, 2, 3, 4, 0] dX9_clear_11 rfl (by decide) rfl ?_
  refine x_aload_n (q := 14) dX9_clear_13 rfl rfl ?_
  refine m_get (q := 17) hM 26 fwX9_66 (by decide) dX9_clear_14 rfl rfl ?_
  refine xn_bipush (q := 19) 6 dX9_clear_17 rfl (by decide) ?_
  refine x_iload_n (q := 20) dX9_clear_19 rfl rfl ?_
  refine xn_imul (q := 21) dX9_clear_20 rfl ?_
  refine x_iload_n (q := 22) dX9_clear_21 rfl rfl ?_
  refine xn_iadd (q := 23) dX9_clear_22 rfl ?_
  refine m_lald (q := 24) hM (n := 126) (by decide) dX9_clear_23 rfl (by omega) ?_
  rw [v2]
  refine x_lstore (q := 26) (ls' := [(0, _), (1, _), (2, _), (3, _), (4, _), (6, _)]) [1, 2, 3, 4, 5, 0] dX9_clear_24 rfl (by decide) rfl ?_
  refine xn_lconst (q := 27) 0 dX9_clear_26 rfl (by decide) ?_
  refine x_lstore (q := 29) (ls' := [(0, _), (1, _), (2, _), (3, _), (4, _), (6, _), (8, _)]) [1, 2, 3, 4, 5, 6, 0] dX9_clear_27 rfl (by decide) rfl ?_
  refine xn_iconst (q := 30) 0 dX9_clear_29 rfl (by decide) ?_
  refine x_istore (q := 32) (ls' := [(0, _), (1, _), (2, _), (3, _), (4, _), (6, _), (8, _), (10, _)]) [1, 2, 3, 4, 5, 6, 7, 0] dX9_clear_30 rfl (by decide) rfl ?_
  refine c_clear_1 G l o as M0 N S d σ W i k c hi hk hik hc hb _ (fun σ1 M o1 w1 hM => ?_) 6 0 (Nat.zero_add _) σ M onlyW.rfl' (fun i' j' h1 h2 => by unfold clr1; rw [if_neg (by omega)]; exact hW i' j' h1 h2) hM
  refine xn_iconst (q := 108) 0 dX9_clear_107 rfl (by decide) ?_
  refine x_istore (q := 110) (ls' := [(0, _), (1, _), (2, _), (3, _), (4, _), (6, _), (8, _), (10, _)]) [1, 2, 3, 4, 5, 6, 7, 0] dX9_clear_108 rfl (by decide) rfl ?_
  by_cases hg : 1 < gcdU (clrV W i k c) 6
  · refine c_clear_2 G l o as M0 N S (d + 1) σ W i k c hi hb hg _ (fun σ2 M o2 w2 hM => ?_) 6 0 (Nat.zero_add _) σ1 M o1 (fun i' j' h1 h2 => ?_) hM
    · refine x_vret rfl dX9_clear_147 (m_ret hM ⟨rfl, o2, fun i' j' h1 h2 => ?_⟩)
      have := w2 i' j' h1 h2
      unfold clr2 at this
      unfold clrM
      rw [if_pos hg]
      rw [if_pos h2] at this
      exact this
    · have := w1 i' j' h1 h2
      unfold clr1 at this
      unfold clr2
      rw [if_neg (Nat.not_lt_zero j')]
      by_cases e : i' = i
      · rw [if_pos e]; rw [if_pos ⟨e, h2⟩] at this; exact this
      · rw [if_neg e]; rw [if_neg (by omega)] at this; exact this
  · refine x_iload (q := 112) dX9_clear_110 rfl rfl ?_
    refine xn_bipush (q := 114) 6 dX9_clear_112 rfl (by decide) ?_
    refine xn_icmp_ge (q := 117) 147 dX9_clear_114 (by decide) rfl (by omega) (by omega) (fun hc114 => absurd hc114 (by decide)) (fun hc114 => ?_)
    refine x_lload (q := 119) dX9_clear_117 rfl rfl ?_
    refine xn_lconst (q := 120) 1 dX9_clear_119 rfl (by decide) ?_
    refine xn_lcmp_le (q1 := 121) (q := 124) 147 dX9_clear_120 rfl dX9_clear_121 (by decide) rfl (by omega) (by omega) (fun hc120 => ?_) (fun hc120 => absurd hc120 (by omega))
    refine x_vret rfl dX9_clear_147 (m_ret hM ⟨rfl, o1, fun i' j' h1 h2 => ?_⟩)
    have := w1 i' j' h1 h2
    unfold clr1 at this
    unfold clrM
    rw [if_neg hg]
    by_cases e : i' = i
    · rw [if_pos e]; rw [if_pos ⟨e, h2⟩] at this; exact this
    · rw [if_neg e]; rw [if_neg (by omega)] at this; exact this
end XL
