section XC6
theorem cE_pr {p : Nat} (ad : Nat → Nat) (σ : cZ) (h : p = 5 ∨ p = 6) : cE ad σ p = some (prE ad p (σ p)) := by rcases h with rfl | rfl <;> rfl
theorem cE_pl {p : Nat} (ad : Nat → Nat) (σ : cZ) (h : p = 5 ∨ p = 6) : cE ad σ (19 + 3 * p) = some (laE 10 (σ (19 + 3 * p))) := by rcases h with rfl | rfl <;> rfl
theorem cE_pq {p : Nat} (ad : Nat → Nat) (σ : cZ) (h : p = 5 ∨ p = 6) : cE ad σ (20 + 3 * p) = some (laE 10 (σ (20 + 3 * p))) := by rcases h with rfl | rfl <;> rfl
theorem cE_pa {p : Nat} (ad : Nat → Nat) (σ : cZ) (h : p = 5 ∨ p = 6) : cE ad σ (21 + 3 * p) = some (zaE 4 (σ (21 + 3 * p))) := by rcases h with rfl | rfl <;> rfl
theorem adv {g : Nat → Int64} {f : Nat → Int} {k : Nat} {v : Int} {w : Int64} (h : ∀ i, i < 10 → g i = iL (f i)) (hw : w = iL (f k + v)) : ∀ i, i < 10 → vp_updL g k w i = iL (addT f k v i) := fun i hi => by
  by_cases e : i = k
  · rw [e, addT_s, hw]; simp [vp_updL]
  · rw [addT_n e]; simp only [vp_updL, if_neg e]; exact h i hi
/-- the shape of a beam at a place, laid on a side -/
def shP (c : mCf) (k q : Nat) (f : Nat → Int) : Nat → Int :=
  addT (addT (addT (addT f k ((scP c c.m * (4 - q) * (4 - q) * (4 + 2 * q) : Nat) : Int)) (esP c (2 * k)) ((c.L k * q * (4 - q) * (4 - q) : Nat) : Int)) (k + 1) ((scP c c.m * q * q * (12 - 2 * q) : Nat) : Int)) (esP c (2 * k + 1)) (-((c.L k * q * q * (4 - q) : Nat) : Int))
/-- what the frame gives to a probe -/
def Fz (σ : cZ) (c : mCf) : Prop := (σ 4).2.1 12 = lN (scP c c.m) ∧ (∀ e, e < 2 * c.m → (σ 28).1 e = nI (esP c e)) ∧ ∀ s, s < 100 → (σ 32).2.1 s = iL (puP c s)
theorem Fz.of_kp {ks : List Nat} {σ σ' : cZ} {c : mCf} (h : Fz σ c) (k : kp ks σ σ') (h1 : 4 ∉ ks) (h2 : 28 ∉ ks) (h3 : 32 ∉ ks) : Fz σ' c := by
  unfold Fz at *
  rw [k 4 h1, k 28 h2, k 32 h3]
  exact h

set_option maxRecDepth 100000 in
set_option maxHeartbeats 4000000 in
theorem b_layShape (G : xG) (l : Launch) (ad : Nat → Nat) (F : xM) (R : Nat × Nat) (d : Nat) (σ : cZ) (p : Nat) (hp : p = 5 ∨ p = 6) (c : mCf) (hc : Bm σ 1 c) (hok : okL c) (hz : Fz σ c) (ta : Nat) (hta : 34 ≤ ta ∧ ta < 40) (eta : ∀ τ, cE ad τ ta = some (laE 10 (τ ta))) (f : Nat → Int) (hf : ∀ i, i < 10 → (σ ta).2.1 i = iL (f i)) (k q : Nat) (hk : k < c.m) (hq : q ≤ 4) : cC G l ad F R YX5_layShape (d + 1) [.ref (ad p), .ref (ad ta), .int (nI k), .int (nI q)] σ (fun r σ' => r = none ∧ kp [ta] σ σ' ∧ ∀ i, i < 10 → (σ' ta).2.1 i = iL (shP c k q f i)) := by
  obtain ⟨h0, h1, h2, h3, h4, h5, h6, h7⟩ := hc
  have hL := (hok.2 k (by omega)).1
  have hs := scP_le hok h0
  have hes1 := esP_lt (c := c) (e := 2 * k) (by omega)
  have hes2 := esP_lt (c := c) (e := 2 * k + 1) (by omega)
  have n4 : (4 : Nat) ∉ [ta] ∧ 28 ∉ [ta] ∧ 14 ∉ [ta] ∧ ta < 200 := by simp; omega
  have g1 : (σ 28).1 (2 * k) = nI (esP c (2 * k)) := hz.2.1 _ (by omega)
  have g2 : (σ 28).1 (2 * k + 1) = nI (esP c (2 * k + 1)) := hz.2.1 _ (by omega)
  refine cC.of (ls := [(0, .ref (ad p)), (1, .ref (ad ta)), (2, .int (nI k)), (3, .int (nI q))]) (by decide) (Nat.le_of_ble_eq_true rfl) rfl fun M N S hM => ?_

  refine xn_iconst (q := 1) 4 dX5_layShape_0 rfl (by decide) ?_
  refine x_iload_n (q := 2) dX5_layShape_1 rfl rfl ?_
  refine xn_isub (q := 3) dX5_layShape_2 rfl (by omega) ?_
  refine xn_i2l (q := 4) dX5_layShape_3 rfl (by omega) ?_
  refine x_lstore (q := 6) (ls' := [(0, _), (1, _), (2, _), (3, _), (4, _)]) [1, 2, 3, 4, 0] dX5_layShape_4 rfl (by decide) rfl ?_
  refine x_aload_n (q := 7) dX5_layShape_6 rfl rfl ?_
  refine c_get (q := 10) (k := p) (f := 1) hM (cE_pr _ _ hp) xclX5 fwX5_37 (by decide) dX5_layShape_7 rfl rfl ?_
  refine c_call (q := 13) (k := 4) (As := []) hM rfl imX4_scale ivX4_scale ilX4_scale mwX5_120 xciX4 dX5_layShape_10 rfl rfl rfl (Nat.le_of_ble_eq_true rfl) ?_
  refine (b_scale G l ad F R (d) σ).mono (fun x9 σ9' hp9 => ?_)
  obtain ⟨rfl, e9⟩ := hp9
  intro M N S hM
  rw [e9] at hM; clear e9 σ9'
  rw [hz.1]
  show xX G l _ (d + 1) _ _ _ _ M N S
  refine x_lstore (q := 15) (ls' := [(0, _), (1, _), (2, _), (3, _), (4, _), (6, _)]) [1, 2, 3, 4, 5, 0] dX5_layShape_13 rfl (by decide) rfl ?_
  refine x_aload_n (q := 16) dX5_layShape_15 rfl rfl ?_
  refine c_get (q := 19) (k := p) (f := 0) hM (cE_pr _ _ hp) xclX5 fwX5_33 (by decide) dX5_layShape_16 rfl rfl ?_
  refine c_get (q := 22) (k := 1) (f := 0) hM rfl xclX1 fwX5_123 (by decide) dX5_layShape_19 rfl rfl ?_
  refine x_iload_n (q := 23) dX5_layShape_22 rfl rfl ?_
  refine c_lald (q := 24) (k := 14) (n := 3) hM rfl (by decide) (by decide) dX5_layShape_23 rfl (by omega) ?_
  refine x_topl (y := lN (c.L k)) (by exact h2 k (by omega)) ?_
  refine x_lstore (q := 26) (ls' := [(0, _), (1, _), (2, _), (3, _), (4, _), (6, _), (8, _)]) [1, 2, 3, 4, 5, 6, 0] dX5_layShape_24 rfl (by decide) rfl ?_
  refine x_aload_n (q := 27) dX5_layShape_26 rfl rfl ?_
  refine x_iload_n (q := 28) dX5_layShape_27 rfl rfl ?_
  refine x_dup2 (q := 29) dX5_layShape_28 rfl rfl rfl ?_
  refine c_lald (q := 30) (k := ta) (n := 10) hM (eta _) (by omega) (by decide) dX5_layShape_29 rfl (by omega) ?_
  refine x_topl (y := iL (f k)) (by exact hf k (by omega)) ?_
  refine x_lload (q := 32) dX5_layShape_30 rfl rfl ?_
  refine x_lload (q := 34) dX5_layShape_32 rfl rfl ?_
  refine xn_lmul (q := 35) dX5_layShape_34 rfl ?_
  refine x_lload (q := 37) dX5_layShape_35 rfl rfl ?_
  refine xn_lmul (q := 38) dX5_layShape_37 rfl ?_
  refine xn_iconst (q := 39) 4 dX5_layShape_38 rfl (by decide) ?_
  refine xn_iconst (q := 40) 2 dX5_layShape_39 rfl (by decide) ?_
  refine x_iload_n (q := 41) dX5_layShape_40 rfl rfl ?_
  refine xn_imul (q := 42) dX5_layShape_41 rfl ?_
  refine xn_iadd (q := 43) dX5_layShape_42 rfl ?_
  refine xn_i2l (q := 44) dX5_layShape_43 rfl (by omega) ?_
  refine xn_lmul (q := 45) dX5_layShape_44 rfl ?_
  refine xi_ladd (q := 46) dX5_layShape_45 rfl rfl (lN_i' _) ?_
  refine c_last (q := 47) (k := ta) (n := 10) hM (by omega) (fun _ => (eta _)) (by decide) dX5_layShape_46 rfl (by omega) (fun M σ46 a46 e46 b46 hM => ?_)
  have c46 : ∀ i, i < 10 → (σ46 ta).2.1 i = iL ((addT f k ((scP c c.m * (4 - q) * (4 - q) * (4 + 2 * q) : Nat) : Int)) i) := by rw [e46]; exact adv hf rfl
  refine x_aload_n (q := 48) dX5_layShape_47 rfl rfl ?_
  refine x_aload_n (q := 49) dX5_layShape_48 rfl rfl ?_
  refine c_get (q := 52) (k := p) (f := 1) hM (cE_pr _ _ hp) xclX5 fwX5_37 (by decide) dX5_layShape_49 rfl rfl ?_
  refine xn_iconst (q := 53) 2 dX5_layShape_52 rfl (by decide) ?_
  refine x_iload_n (q := 54) dX5_layShape_53 rfl rfl ?_
  refine xn_imul (q := 55) dX5_layShape_54 rfl ?_
  refine c_call (q := 58) (k := 4) (As := [_]) hM rfl imX4_slotOfEnd ivX4_slotOfEnd ilX4_slotOfEnd mwX5_126 xciX4 dX5_layShape_55 rfl rfl rfl (Nat.le_of_ble_eq_true rfl) ?_
  refine (b_slotOfEnd G l ad F R (d) σ46 (2 * k) (by omega)).mono (fun x9 σ9' hp9 => ?_)
  obtain ⟨rfl, e9⟩ := hp9
  intro M N S hM
  rw [e9] at hM; clear e9 σ9'
  rw [a46 28 n4.2.1, g1]
  show xX G l _ (d + 1) _ _ _ _ M N S
  refine x_dup2 (q := 59) dX5_layShape_58 rfl rfl rfl ?_
  refine c_lald (q := 60) (k := ta) (n := 10) hM (eta _) (by omega) (by decide) dX5_layShape_59 rfl (by omega) ?_
  refine x_topl (y := iL ((addT f k ((scP c c.m * (4 - q) * (4 - q) * (4 + 2 * q) : Nat) : Int)) (esP c (2 * k)))) (by exact c46 _ (by omega)) ?_
  refine x_lload (q := 62) dX5_layShape_60 rfl rfl ?_
  refine x_iload_n (q := 63) dX5_layShape_62 rfl rfl ?_
  refine xn_i2l (q := 64) dX5_layShape_63 rfl (by omega) ?_
  refine xn_lmul (q := 65) dX5_layShape_64 rfl ?_
  refine x_lload (q := 67) dX5_layShape_65 rfl rfl ?_
  refine xn_lmul (q := 68) dX5_layShape_67 rfl ?_
  refine x_lload (q := 70) dX5_layShape_68 rfl rfl ?_
  refine xn_lmul (q := 71) dX5_layShape_70 rfl ?_
  refine xi_ladd (q := 72) dX5_layShape_71 rfl rfl (lN_i' _) ?_
  refine c_last (q := 73) (k := ta) (n := 10) hM (by omega) (fun _ => (eta _)) (by decide) dX5_layShape_72 rfl (by omega) (fun M σ72 a72 e72 b72 hM => ?_)
  have c72 : ∀ i, i < 10 → (σ72 ta).2.1 i = iL ((addT (addT f k ((scP c c.m * (4 - q) * (4 - q) * (4 + 2 * q) : Nat) : Int)) (esP c (2 * k)) ((c.L k * q * (4 - q) * (4 - q) : Nat) : Int)) i) := by rw [e72]; exact adv c46 rfl
  refine x_aload_n (q := 74) dX5_layShape_73 rfl rfl ?_
  refine x_iload_n (q := 75) dX5_layShape_74 rfl rfl ?_
  refine xn_iconst (q := 76) 1 dX5_layShape_75 rfl (by decide) ?_
  refine xn_iadd (q := 77) dX5_layShape_76 rfl ?_
  refine x_dup2 (q := 78) dX5_layShape_77 rfl rfl rfl ?_
  refine c_lald (q := 79) (k := ta) (n := 10) hM (eta _) (by omega) (by decide) dX5_layShape_78 rfl (by omega) ?_
  refine x_topl (y := iL ((addT (addT f k ((scP c c.m * (4 - q) * (4 - q) * (4 + 2 * q) : Nat) : Int)) (esP c (2 * k)) ((c.L k * q * (4 - q) * (4 - q) : Nat) : Int)) (k + 1))) (by exact c72 _ (by omega)) ?_
  refine x_lload (q := 81) dX5_layShape_79 rfl rfl ?_
  refine x_iload_n (q := 82) dX5_layShape_81 rfl rfl ?_
  refine xn_i2l (q := 83) dX5_layShape_82 rfl (by omega) ?_
  refine xn_lmul (q := 84) dX5_layShape_83 rfl ?_
  refine x_iload_n (q := 85) dX5_layShape_84 rfl rfl ?_
  refine xn_i2l (q := 86) dX5_layShape_85 rfl (by omega) ?_
  refine xn_lmul (q := 87) dX5_layShape_86 rfl ?_
  refine xn_bipush (q := 89) 12 dX5_layShape_87 rfl (by decide) ?_
  refine xn_iconst (q := 90) 2 dX5_layShape_89 rfl (by decide) ?_
  refine x_iload_n (q := 91) dX5_layShape_90 rfl rfl ?_
  refine xn_imul (q := 92) dX5_layShape_91 rfl ?_
  refine xn_isub (q := 93) dX5_layShape_92 rfl (by omega) ?_
  refine xn_i2l (q := 94) dX5_layShape_93 rfl (by omega) ?_
  refine xn_lmul (q := 95) dX5_layShape_94 rfl ?_
  refine xi_ladd (q := 96) dX5_layShape_95 rfl rfl (lN_i' _) ?_
  refine c_last (q := 97) (k := ta) (n := 10) hM (by omega) (fun _ => (eta _)) (by decide) dX5_layShape_96 rfl (by omega) (fun M σ96 a96 e96 b96 hM => ?_)
  have c96 : ∀ i, i < 10 → (σ96 ta).2.1 i = iL ((addT (addT (addT f k ((scP c c.m * (4 - q) * (4 - q) * (4 + 2 * q) : Nat) : Int)) (esP c (2 * k)) ((c.L k * q * (4 - q) * (4 - q) : Nat) : Int)) (k + 1) ((scP c c.m * q * q * (12 - 2 * q) : Nat) : Int)) i) := by rw [e96]; exact adv c72 rfl
  refine x_aload_n (q := 98) dX5_layShape_97 rfl rfl ?_
  refine x_aload_n (q := 99) dX5_layShape_98 rfl rfl ?_
  refine c_get (q := 102) (k := p) (f := 1) hM (cE_pr _ _ hp) xclX5 fwX5_37 (by decide) dX5_layShape_99 rfl rfl ?_
  refine xn_iconst (q := 103) 2 dX5_layShape_102 rfl (by decide) ?_
  refine x_iload_n (q := 104) dX5_layShape_103 rfl rfl ?_
  refine xn_imul (q := 105) dX5_layShape_104 rfl ?_
  refine xn_iconst (q := 106) 1 dX5_layShape_105 rfl (by decide) ?_
  refine xn_iadd (q := 107) dX5_layShape_106 rfl ?_
  refine c_call (q := 110) (k := 4) (As := [_]) hM rfl imX4_slotOfEnd ivX4_slotOfEnd ilX4_slotOfEnd mwX5_126 xciX4 dX5_layShape_107 rfl rfl rfl (Nat.le_of_ble_eq_true rfl) ?_
  refine (b_slotOfEnd G l ad F R (d) σ96 (2 * k + 1) (by omega)).mono (fun x9 σ9' hp9 => ?_)
  obtain ⟨rfl, e9⟩ := hp9
  intro M N S hM
  rw [e9] at hM; clear e9 σ9'
  rw [a96 28 n4.2.1, a72 28 n4.2.1, a46 28 n4.2.1, g2]
  show xX G l _ (d + 1) _ _ _ _ M N S
  refine x_dup2 (q := 111) dX5_layShape_110 rfl rfl rfl ?_
  refine c_lald (q := 112) (k := ta) (n := 10) hM (eta _) (by omega) (by decide) dX5_layShape_111 rfl (by omega) ?_
  refine x_topl (y := iL ((addT (addT (addT f k ((scP c c.m * (4 - q) * (4 - q) * (4 + 2 * q) : Nat) : Int)) (esP c (2 * k)) ((c.L k * q * (4 - q) * (4 - q) : Nat) : Int)) (k + 1) ((scP c c.m * q * q * (12 - 2 * q) : Nat) : Int)) (esP c (2 * k + 1)))) (by exact c96 _ (by omega)) ?_
  refine x_lload (q := 114) dX5_layShape_112 rfl rfl ?_
  refine x_iload_n (q := 115) dX5_layShape_114 rfl rfl ?_
  refine xn_i2l (q := 116) dX5_layShape_115 rfl (by omega) ?_
  refine xn_lmul (q := 117) dX5_layShape_116 rfl ?_
  refine x_iload_n (q := 118) dX5_layShape_117 rfl rfl ?_
  refine xn_i2l (q := 119) dX5_layShape_118 rfl (by omega) ?_
  refine xn_lmul (q := 120) dX5_layShape_119 rfl ?_
  refine x_lload (q := 122) dX5_layShape_120 rfl rfl ?_
  refine xn_lmul (q := 123) dX5_layShape_122 rfl ?_
  refine xi_lsub (q := 124) dX5_layShape_123 rfl rfl (lN_i' _) ?_
  refine c_last (q := 125) (k := ta) (n := 10) hM (by omega) (fun _ => (eta _)) (by decide) dX5_layShape_124 rfl (by omega) (fun M σ124 a124 e124 b124 hM => ?_)
  have c124 : ∀ i, i < 10 → (σ124 ta).2.1 i = iL (shP c k q f i) := by rw [e124]; exact adv c96 (by rw [← Int.sub_eq_add_neg])
  exact x_vret rfl dX5_layShape_125 (c_ret hM ⟨rfl, a46.trans (a72.trans (a96.trans a124)), c124⟩)

theorem bmk' {ks : List Nat} {σ σ' : cZ} {c : mCf} (h : Bm σ 1 c) (k : kp ks σ σ') (hn : ∀ j ∈ ks, (2 ≤ j ∧ j < 14) ∨ 20 ≤ j) : Bm σ' 1 c := h.kp k (fun i hi hj => by have := hn i hj; simp at hi; omega)

set_option maxRecDepth 100000 in
set_option maxHeartbeats 4000000 in
theorem b_put (G : xG) (l : Launch) (ad : Nat → Nat) (F : xM) (R : Nat × Nat) (d : Nat) (σ : cZ) (p : Nat) (hp : p = 5 ∨ p = 6) (c : mCf) (hc : Bm σ 1 c) (hok : okL c) (hz : Fz σ c) (k q : Nat) (hk : k < c.m) (hq : q ≤ 4) : cC G l ad F R YX5_put (d + 2) [.ref (ad p), .int (nI k), .int (nI q)] σ (fun r σ' => r = none ∧ kp [p, 20 + 3 * p] σ σ' ∧ (σ' p).1 = mu (mu (σ p).1 9 (nI k)) 10 (nI q) ∧ (σ' p).2 = (σ p).2 ∧ ∀ i, i < 10 → (σ' (20 + 3 * p)).2.1 i = iL (shP c k q (fun _ => 0) i)) := by
  have n1 : p ∉ [20 + 3 * p] ∧ (20 + 3 * p) ∉ [p] ∧ (4 ∉ [p, 20 + 3 * p] ∧ 28 ∉ [p, 20 + 3 * p] ∧ 32 ∉ [p, 20 + 3 * p]) ∧ 20 + 3 * p < 40 ∧ 34 ≤ 20 + 3 * p := by simp; omega
  have m1 : ∀ (τ τ' : cZ), kp [p] τ τ' → kp [p, 20 + 3 * p] τ τ' := fun τ τ' h => h.mono (fun j hj => by simp at hj ⊢; omega)
  have m2' : ∀ (τ τ' : cZ), kp [20 + 3 * p] τ τ' → kp [p, 20 + 3 * p] τ τ' := fun τ τ' h => h.mono (fun j hj => by simp at hj ⊢; omega)
  refine cC.of (ls := [(0, .ref (ad p)), (1, .int (nI k)), (2, .int (nI q))]) (by decide) (Nat.le_of_ble_eq_true rfl) rfl fun M N S hM => ?_

  refine x_aload_n (q := 1) dX5_put_0 rfl rfl ?_
  refine x_iload_n (q := 2) dX5_put_1 rfl rfl ?_
  refine c_puti (q := 5) (k := p) (f := 9) hM (cE_pr _ _ hp) (by rw [cE_pr _ _ hp, mu_s]; rfl) xclX5 fwX5_79 (by decide) rfl rfl (Nat.le_of_ble_eq_true rfl) dX5_put_2 rfl rfl rfl (fun M σ2 a2 e2 b2 hM => ?_)
  refine x_aload_n (q := 6) dX5_put_5 rfl rfl ?_
  refine x_iload_n (q := 7) dX5_put_6 rfl rfl ?_
  refine c_puti (q := 10) (k := p) (f := 10) hM (cE_pr _ _ hp) (by rw [cE_pr _ _ hp, mu_s]; rfl) xclX5 fwX5_82 (by decide) rfl rfl (Nat.le_of_ble_eq_true rfl) dX5_put_7 rfl rfl rfl (fun M σ7 a7 e7 b7 hM => ?_)
  refine x_aload_n (q := 11) dX5_put_10 rfl rfl ?_
  refine c_get (q := 14) (k := p) (f := 3) hM (cE_pr _ _ hp) xclX5 fwX5_17 (by decide) dX5_put_11 rfl rfl ?_
  refine xn_lconst (q := 15) 0 dX5_put_14 rfl (by decide) ?_
  refine c_callS (q := 18) (As := [_, _]) hM imJ7_fill_d0a16 isJ7_fill_d0a16 mwX5_51 dX5_put_15 rfl rfl rfl (Nat.le_of_ble_eq_true rfl) ?_
  refine (b_fill G l ad F R (d + 1) σ7 (20 + 3 * p) 10 (lN 0) n1.2.2.2.1 (fun τ => cE_pq ad τ hp) (by decide)).mono (fun x9 σ15 hp => ?_)
  obtain ⟨rfl, q1, q2, q3⟩ := hp
  intro M N S hM
  show xX G l _ (d + 2) _ _ _ _ M N S
  have kz : kp [p, 20 + 3 * p] σ σ15 := (m1 _ _ a2).trans ((m1 _ _ a7).trans (m2' _ _ q1))
  refine x_aload_n (q := 19) dX5_put_18 rfl rfl ?_
  refine x_aload_n (q := 20) dX5_put_19 rfl rfl ?_
  refine c_get (q := 23) (k := p) (f := 3) hM (cE_pr _ _ hp) xclX5 fwX5_17 (by decide) dX5_put_20 rfl rfl ?_
  refine x_aload_n (q := 24) dX5_put_23 rfl rfl ?_
  refine c_get (q := 27) (k := p) (f := 9) hM (cE_pr _ _ hp) xclX5 fwX5_79 (by decide) dX5_put_24 rfl rfl ?_
  refine x_topi (y := nI k) (by rw [q1 p n1.1, e7, mu_n (by decide), e2, mu_s]) ?_
  refine x_aload_n (q := 28) dX5_put_27 rfl rfl ?_
  refine c_get (q := 31) (k := p) (f := 10) hM (cE_pr _ _ hp) xclX5 fwX5_82 (by decide) dX5_put_28 rfl rfl ?_
  refine x_topi (y := nI q) (by rw [q1 p n1.1, e7, mu_s]) ?_
  refine c_call (q := 34) (k := p) (As := [_, _, _]) hM (cE_pr _ _ hp) imX5_layShape ivX5_layShape ilX5_layShape mwX5_85 xciX5 dX5_put_31 rfl rfl rfl (Nat.le_of_ble_eq_true rfl) ?_
  have hc15 : Bm σ15 1 c := bmk' hc kz (by intro j hj; simp at hj; omega)
  have hz15 : Fz σ15 c := hz.of_kp kz n1.2.2.1.1 n1.2.2.1.2.1 n1.2.2.1.2.2
  refine (b_layShape G l ad F R d σ15 p hp c hc15 hok hz15 (20 + 3 * p) ⟨n1.2.2.2.2, n1.2.2.2.1⟩ (fun τ => cE_pq ad τ hp) (fun _ => 0) (fun i hi => q2 i hi) k q hk hq).mono (fun x9 σ31 hp => ?_)
  obtain ⟨rfl, t1, t2⟩ := hp
  intro M N S hM
  show xX G l _ (d + 2) _ _ _ _ M N S
  exact x_vret rfl dX5_put_34 (c_ret hM ⟨rfl, kz.trans (m2' _ _ t1), by rw [t1 p n1.1, q1 p n1.1, e7, e2], by rw [t1 p n1.1, q1 p n1.1, b7, b2], t2⟩)

set_option maxRecDepth 100000 in
set_option maxHeartbeats 4000000 in
theorem b_ratio (G : xG) (l : Launch) (ad : Nat → Nat) (F : xM) (R : Nat × Nat) (d : Nat) (σ : cZ) (p : Nat) (hp : p = 5 ∨ p = 6) (c : mCf) (hc : Bm σ 1 c) (hok : okL c) (hz : Fz σ c) (k : Nat) (hk : k < c.m) (hb : (σ p).1 7 = nI k) : cC G l ad F R YX5_ratio (d + 1) [.ref (ad p)] σ (fun r σ' => r = some (.long (lN (rtP c k))) ∧ σ' = σ) := by
  obtain ⟨h0, h1, h2, h3, h4, h5, h6, h7⟩ := hc
  have hL := (hok.2 k (by omega)).1
  have hs := scP_le hok h0
  refine cC.of (ls := [(0, .ref (ad p))]) (by decide) (Nat.le_of_ble_eq_true rfl) rfl fun M N S hM => ?_

  refine x_aload_n (q := 1) dX5_ratio_0 rfl rfl ?_
  refine c_get (q := 4) (k := p) (f := 0) hM (cE_pr _ _ hp) xclX5 fwX5_33 (by decide) dX5_ratio_1 rfl rfl ?_
  refine c_get (q := 7) (k := 1) (f := 0) hM rfl xclX1 fwX5_123 (by decide) dX5_ratio_4 rfl rfl ?_
  refine x_aload_n (q := 8) dX5_ratio_7 rfl rfl ?_
  refine c_get (q := 11) (k := p) (f := 7) hM (cE_pr _ _ hp) xclX5 fwX5_45 (by decide) dX5_ratio_8 rfl rfl ?_
  refine x_topi (y := nI k) (by exact hb) ?_
  refine c_lald (q := 12) (k := 14) (n := 3) hM rfl (by decide) (by decide) dX5_ratio_11 rfl (by omega) ?_
  refine x_topl (y := lN (c.L k)) (by exact h2 k (by omega)) ?_
  refine x_lstore_n (q := 13) (ls' := [(0, _), (1, _)]) [1, 0] dX5_ratio_12 rfl (by decide) rfl ?_
  refine x_lload_n (q := 14) dX5_ratio_13 rfl rfl ?_
  refine xn_lconst (q := 15) 0 dX5_ratio_14 rfl (by decide) ?_
  refine xn_lcmp_le (q1 := 16) (q := 19) 31 dX5_ratio_15 rfl dX5_ratio_16 (by decide) rfl (by omega) (by omega) (fun hc15 => absurd hc15 (by omega)) (fun hc15 => ?_)
  refine x_aload_n (q := 20) dX5_ratio_19 rfl rfl ?_
  refine c_get (q := 23) (k := p) (f := 1) hM (cE_pr _ _ hp) xclX5 fwX5_37 (by decide) dX5_ratio_20 rfl rfl ?_
  refine c_call (q := 26) (k := 4) (As := []) hM rfl imX4_scale ivX4_scale ilX4_scale mwX5_120 xciX4 dX5_ratio_23 rfl rfl rfl (Nat.le_of_ble_eq_true rfl) ?_
  refine (b_scale G l ad F R (d) σ).mono (fun x9 σ9' hp9 => ?_)
  obtain ⟨rfl, e9⟩ := hp9
  intro M N S hM
  rw [e9] at hM; clear e9 σ9'
  rw [hz.1]
  show xX G l _ (d + 1) _ _ _ _ M N S
  refine x_lload_n (q := 27) dX5_ratio_26 rfl rfl ?_
  refine xn_ldiv (q := 28) dX5_ratio_27 rfl (by omega) (by omega) (by omega) ?_
  refine x_goto 32 dX5_ratio_28 (by decide) ?_
  exact x_lret rfl dX5_ratio_32 (c_ret hM ⟨rfl, rfl⟩)

/-- the ends of a beam, laid on the left side -/
def enP (c : mCf) (k : Nat) (x y z : Int) (f : Nat → Int) : Nat → Int := addT (addT (addT (addT f k x) (esP c (2 * k)) y) (k + 1) (-x)) (esP c (2 * k + 1)) z

set_option maxRecDepth 100000 in
set_option maxHeartbeats 4000000 in
theorem b_layEnds (G : xG) (l : Launch) (ad : Nat → Nat) (F : xM) (R : Nat × Nat) (d : Nat) (σ : cZ) (p : Nat) (hp : p = 5 ∨ p = 6) (c : mCf) (h0 : c.m ≤ 3) (hz : Fz σ c) (f : Nat → Int) (hf : ∀ i, i < 10 → (σ (19 + 3 * p)).2.1 i = iL (f i)) (k : Nat) (hk : k < c.m) (hb : (σ p).1 7 = nI k) (x y z : Int) : cC G l ad F R YX5_layEnds (d + 1) [.ref (ad p), .long (iL x), .long (iL y), .long (iL z)] σ (fun r σ' => r = none ∧ kp [19 + 3 * p] σ σ' ∧ ∀ i, i < 10 → (σ' (19 + 3 * p)).2.1 i = iL (enP c k x y z f i)) := by
  have hes1 := esP_lt (c := c) (e := 2 * k) (by omega)
  have hes2 := esP_lt (c := c) (e := 2 * k + 1) (by omega)
  have n4 : p ∉ [19 + 3 * p] ∧ 28 ∉ [19 + 3 * p] := by simp; omega
  have g1 : (σ 28).1 (2 * k) = nI (esP c (2 * k)) := hz.2.1 _ (by omega)
  have g2 : (σ 28).1 (2 * k + 1) = nI (esP c (2 * k + 1)) := hz.2.1 _ (by omega)
  refine cC.of (ls := [(0, .ref (ad p)), (1, .long (iL x)), (3, .long (iL y)), (5, .long (iL z))]) (by decide) (Nat.le_of_ble_eq_true rfl) rfl fun M N S hM => ?_

  refine x_aload_n (q := 1) dX5_layEnds_0 rfl rfl ?_
  refine c_get (q := 4) (k := p) (f := 2) hM (cE_pr _ _ hp) xclX5 fwX5_11 (by decide) dX5_layEnds_1 rfl rfl ?_
  refine x_aload_n (q := 5) dX5_layEnds_4 rfl rfl ?_
  refine c_get (q := 8) (k := p) (f := 7) hM (cE_pr _ _ hp) xclX5 fwX5_45 (by decide) dX5_layEnds_5 rfl rfl ?_
  refine x_topi (y := nI k) (by exact hb) ?_
  refine x_dup2 (q := 9) dX5_layEnds_8 rfl rfl rfl ?_
  refine c_lald (q := 10) (k := (19 + 3 * p)) (n := 10) hM (cE_pl _ _ hp) (by omega) (by decide) dX5_layEnds_9 rfl (by omega) ?_
  refine x_topl (y := iL (f k)) (by exact hf k (by omega)) ?_
  refine x_lload_n (q := 11) dX5_layEnds_10 rfl rfl ?_
  refine xi_ladd (q := 12) dX5_layEnds_11 rfl rfl rfl ?_
  refine c_last (q := 13) (k := (19 + 3 * p)) (n := 10) hM (by omega) (fun _ => (cE_pl _ _ hp)) (by decide) dX5_layEnds_12 rfl (by omega) (fun M σ12 a12 e12 b12 hM => ?_)
  have c12 : ∀ i, i < 10 → (σ12 (19 + 3 * p)).2.1 i = iL ((addT f k x) i) := by rw [e12]; exact adv hf rfl
  refine x_aload_n (q := 14) dX5_layEnds_13 rfl rfl ?_
  refine c_get (q := 17) (k := p) (f := 2) hM (cE_pr _ _ hp) xclX5 fwX5_11 (by decide) dX5_layEnds_14 rfl rfl ?_
  refine x_aload_n (q := 18) dX5_layEnds_17 rfl rfl ?_
  refine c_get (q := 21) (k := p) (f := 1) hM (cE_pr _ _ hp) xclX5 fwX5_37 (by decide) dX5_layEnds_18 rfl rfl ?_
  refine xn_iconst (q := 22) 2 dX5_layEnds_21 rfl (by decide) ?_
  refine x_aload_n (q := 23) dX5_layEnds_22 rfl rfl ?_
  refine c_get (q := 26) (k := p) (f := 7) hM (cE_pr _ _ hp) xclX5 fwX5_45 (by decide) dX5_layEnds_23 rfl rfl ?_
  refine x_topi (y := nI k) (by rw [a12 p n4.1]; exact hb) ?_
  refine xn_imul (q := 27) dX5_layEnds_26 rfl ?_
  refine c_call (q := 30) (k := 4) (As := [_]) hM rfl imX4_slotOfEnd ivX4_slotOfEnd ilX4_slotOfEnd mwX5_126 xciX4 dX5_layEnds_27 rfl rfl rfl (Nat.le_of_ble_eq_true rfl) ?_
  refine (b_slotOfEnd G l ad F R (d) σ12 (2 * k) (by omega)).mono (fun x9 σ9' hp9 => ?_)
  obtain ⟨rfl, e9⟩ := hp9
  intro M N S hM
  rw [e9] at hM; clear e9 σ9'
  rw [a12 28 n4.2, g1]
  show xX G l _ (d + 1) _ _ _ _ M N S
  refine x_dup2 (q := 31) dX5_layEnds_30 rfl rfl rfl ?_
  refine c_lald (q := 32) (k := (19 + 3 * p)) (n := 10) hM (cE_pl _ _ hp) (by omega) (by decide) dX5_layEnds_31 rfl (by omega) ?_
  refine x_topl (y := iL ((addT f k x) (esP c (2 * k)))) (by exact c12 _ (by omega)) ?_
  refine x_lload_n (q := 33) dX5_layEnds_32 rfl rfl ?_
  refine xi_ladd (q := 34) dX5_layEnds_33 rfl rfl rfl ?_
  refine c_last (q := 35) (k := (19 + 3 * p)) (n := 10) hM (by omega) (fun _ => (cE_pl _ _ hp)) (by decide) dX5_layEnds_34 rfl (by omega) (fun M σ34 a34 e34 b34 hM => ?_)
  have c34 : ∀ i, i < 10 → (σ34 (19 + 3 * p)).2.1 i = iL ((addT (addT f k x) (esP c (2 * k)) y) i) := by rw [e34]; exact adv c12 rfl
  refine x_aload_n (q := 36) dX5_layEnds_35 rfl rfl ?_
  refine c_get (q := 39) (k := p) (f := 2) hM (cE_pr _ _ hp) xclX5 fwX5_11 (by decide) dX5_layEnds_36 rfl rfl ?_
  refine x_aload_n (q := 40) dX5_layEnds_39 rfl rfl ?_
  refine c_get (q := 43) (k := p) (f := 7) hM (cE_pr _ _ hp) xclX5 fwX5_45 (by decide) dX5_layEnds_40 rfl rfl ?_
  refine x_topi (y := nI k) (by rw [a34 p n4.1, a12 p n4.1]; exact hb) ?_
  refine xn_iconst (q := 44) 1 dX5_layEnds_43 rfl (by decide) ?_
  refine xn_iadd (q := 45) dX5_layEnds_44 rfl ?_
  refine x_dup2 (q := 46) dX5_layEnds_45 rfl rfl rfl ?_
  refine c_lald (q := 47) (k := (19 + 3 * p)) (n := 10) hM (cE_pl _ _ hp) (by omega) (by decide) dX5_layEnds_46 rfl (by omega) ?_
  refine x_topl (y := iL ((addT (addT f k x) (esP c (2 * k)) y) (k + 1))) (by exact c34 _ (by omega)) ?_
  refine x_lload_n (q := 48) dX5_layEnds_47 rfl rfl ?_
  refine xi_lsub (q := 49) dX5_layEnds_48 rfl rfl rfl ?_
  refine c_last (q := 50) (k := (19 + 3 * p)) (n := 10) hM (by omega) (fun _ => (cE_pl _ _ hp)) (by decide) dX5_layEnds_49 rfl (by omega) (fun M σ49 a49 e49 b49 hM => ?_)
  have c49 : ∀ i, i < 10 → (σ49 (19 + 3 * p)).2.1 i = iL ((addT (addT (addT f k x) (esP c (2 * k)) y) (k + 1) (-x)) i) := by rw [e49]; exact adv c34 (by rw [← Int.sub_eq_add_neg])
  refine x_aload_n (q := 51) dX5_layEnds_50 rfl rfl ?_
  refine c_get (q := 54) (k := p) (f := 2) hM (cE_pr _ _ hp) xclX5 fwX5_11 (by decide) dX5_layEnds_51 rfl rfl ?_
  refine x_aload_n (q := 55) dX5_layEnds_54 rfl rfl ?_
  refine c_get (q := 58) (k := p) (f := 1) hM (cE_pr _ _ hp) xclX5 fwX5_37 (by decide) dX5_layEnds_55 rfl rfl ?_
  refine xn_iconst (q := 59) 2 dX5_layEnds_58 rfl (by decide) ?_
  refine x_aload_n (q := 60) dX5_layEnds_59 rfl rfl ?_
  refine c_get (q := 63) (k := p) (f := 7) hM (cE_pr _ _ hp) xclX5 fwX5_45 (by decide) dX5_layEnds_60 rfl rfl ?_
  refine x_topi (y := nI k) (by rw [a49 p n4.1, a34 p n4.1, a12 p n4.1]; exact hb) ?_
  refine xn_imul (q := 64) dX5_layEnds_63 rfl ?_
  refine xn_iconst (q := 65) 1 dX5_layEnds_64 rfl (by decide) ?_
  refine xn_iadd (q := 66) dX5_layEnds_65 rfl ?_
  refine c_call (q := 69) (k := 4) (As := [_]) hM rfl imX4_slotOfEnd ivX4_slotOfEnd ilX4_slotOfEnd mwX5_126 xciX4 dX5_layEnds_66 rfl rfl rfl (Nat.le_of_ble_eq_true rfl) ?_
  refine (b_slotOfEnd G l ad F R (d) σ49 (2 * k + 1) (by omega)).mono (fun x9 σ9' hp9 => ?_)
  obtain ⟨rfl, e9⟩ := hp9
  intro M N S hM
  rw [e9] at hM; clear e9 σ9'
  rw [a49 28 n4.2, a34 28 n4.2, a12 28 n4.2, g2]
  show xX G l _ (d + 1) _ _ _ _ M N S
  refine x_dup2 (q := 70) dX5_layEnds_69 rfl rfl rfl ?_
  refine c_lald (q := 71) (k := (19 + 3 * p)) (n := 10) hM (cE_pl _ _ hp) (by omega) (by decide) dX5_layEnds_70 rfl (by omega) ?_
  refine x_topl (y := iL ((addT (addT (addT f k x) (esP c (2 * k)) y) (k + 1) (-x)) (esP c (2 * k + 1)))) (by exact c49 _ (by omega)) ?_
  refine x_lload (q := 73) dX5_layEnds_71 rfl rfl ?_
  refine xi_ladd (q := 74) dX5_layEnds_73 rfl rfl rfl ?_
  refine c_last (q := 75) (k := (19 + 3 * p)) (n := 10) hM (by omega) (fun _ => (cE_pl _ _ hp)) (by decide) dX5_layEnds_74 rfl (by omega) (fun M σ74 a74 e74 b74 hM => ?_)
  have c74 : ∀ i, i < 10 → (σ74 (19 + 3 * p)).2.1 i = iL (enP c k x y z f i) := by rw [e74]; exact adv c49 rfl
  exact x_vret rfl dX5_layEnds_75 (c_ret hM ⟨rfl, a12.trans (a34.trans (a49.trans a74)), c74⟩)

end XC6
