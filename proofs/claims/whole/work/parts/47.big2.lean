section XY
theorem sum_upd : ∀ (n i : Nat) (f f' : Nat → Nat), i < n → (∀ j, j ≠ i → f' j = f j) → ((List.range n).map f').sum + f i = ((List.range n).map f).sum + f' i := by
  intro n
  induction n with
  | zero => intro i f f' h; omega
  | succ n ih =>
    intro i f f' h ho
    rw [List.range_succ, List.map_append, List.map_append, List.sum_append, List.sum_append]
    simp only [List.map_cons, List.map_nil, List.sum_cons, List.sum_nil]
    by_cases e : i = n
    · subst e
      have : (List.range i).map f' = (List.range i).map f := List.map_congr_left fun j hj => ho j (by have := List.mem_range.mp hj; omega)
      rw [this]
      omega
    · have := ih i f f' (by omega) ho
      rw [ho n (by omega)]
      omega
theorem sum_le : ∀ (n m : Nat) (f : Nat → Nat), (∀ j, j < n → f j ≤ m) → ((List.range n).map f).sum ≤ n * m := by
  intro n m f
  induction n with
  | zero => intro _; simp
  | succ n ih =>
    intro h
    rw [List.range_succ, List.map_append, List.sum_append]
    simp only [List.map_cons, List.map_nil, List.sum_cons, List.sum_nil]
    have h1 := ih (fun j hj => h j (by omega))
    have h2 := h n (by omega)
    rw [Nat.succ_mul]
    omega
theorem lsum_le {σ : cZ} (h : ∀ b, isBg b → (σ b).2.2 1 ≤ 2048) : lsum σ ≤ 163840 := sum_le 80 2048 _ (fun j hj => h _ ⟨by omega, by omega⟩)
theorem lsum_upd {σ σ' : cZ} {b : Nat} (hb : isBg b) (h : ∀ c, isBg c → c ≠ b → (σ' c).2.2 1 = (σ c).2.2 1) : lsum σ' + (σ b).2.2 1 = lsum σ + (σ' b).2.2 1 := by
  have h1 := hb.1
  have h2 := hb.2
  have := sum_upd 80 (b - 100) (fun i => if i < 80 then (σ (100 + i)).2.2 1 else 0) (fun i => if i < 80 then (σ' (100 + i)).2.2 1 else 0) (by omega) (fun j hj => by
    show (if j < 80 then (σ' (100 + j)).2.2 1 else 0) = if j < 80 then (σ (100 + j)).2.2 1 else 0
    split
    · exact h _ ⟨by omega, by omega⟩ (by omega)
    · rfl)
  rw [if_pos (by omega), if_pos (by omega), show 100 + (b - 100) = b by omega] at this
  have e : ∀ τ : cZ, lsum τ = ((List.range 80).map (fun i => if i < 80 then (τ (100 + i)).2.2 1 else 0)).sum := fun τ => by
    unfold lsum
    refine congrArg List.sum (List.map_congr_left fun i hi => ?_)
    rw [if_pos (List.mem_range.mp hi)]
  rw [e σ, e σ']
  exact this
theorem cV_E {k : Nat} (ad : Nat → Nat) (σ : cZ) (h : cV k) : ∃ e, cE ad σ k = some e := by
  unfold cE
  rcases h with h | h | h
  · rw [if_pos h]
    exact ⟨_, List.getElem?_eq_getElem (by exact h)⟩
  · rw [if_neg (by omega), if_pos h]
    exact ⟨_, rfl⟩
  · rw [if_neg (by omega), if_neg (by omega), if_pos h]
    exact ⟨_, rfl⟩
theorem cA.grow {G : xG} {ad : Nat → Nat} {F : xM} {R : Nat × Nat} {σ : cZ} {M : xM} {N S : Nat} (h : cA G ad F R σ M N S) {b m : Nat} (hb : isBg b) (hfr : M N = none) (hm : 2 * (σ b).2.2 1 ≤ m) (hm2 : m ≤ 2048) (f : Nat → Int32) : cA G ad F R (mu (mu σ (b + 100) (f, (σ (b + 100)).2)) b ((σ b).1, (σ b).2.1, mu (mu (σ b).2.2 0 N) 1 m)) (xup (xup M N (.inl (.int, m, .inl f))) (ad b) (.inr (5, [.int ((σ b).1 0), .int ((σ b).1 1), .ref N]))) (N + 1) (S + m) := by
  obtain ⟨h1, h2, h3, h4, ⟨h5, h6⟩, h7⟩ := h
  have hb1 := hb.1
  have hb2 := hb.2
  generalize hσ : mu (mu σ (b + 100) (f, (σ (b + 100)).2)) b ((σ b).1, (σ b).2.1, mu (mu (σ b).2.2 0 N) 1 m) = τ
  have tb : τ b = ((σ b).1, (σ b).2.1, mu (mu (σ b).2.2 0 N) 1 m) := by rw [← hσ, mu_s]
  have tl : τ (b + 100) = (f, (σ (b + 100)).2) := by rw [← hσ, mu_n (by omega), mu_s]
  have to : ∀ k, k ≠ b → k ≠ b + 100 → τ k = σ k := fun k k1 k2 => by rw [← hσ, mu_n k1, mu_n k2]
  have tb0 : (τ b).2.2 0 = N := by rw [tb]; show mu (mu (σ b).2.2 0 N) 1 m 0 = N; rw [mu_n (by decide), mu_s]
  have tb1 : (τ b).2.2 1 = m := by rw [tb]; show mu (mu (σ b).2.2 0 N) 1 m 1 = m; rw [mu_s]
  have vb : cV b := .inr (.inl hb)
  have hlive : ∀ k, cV k → cad ad σ k ≠ N := fun k hk e => by
    obtain ⟨x, hx⟩ := cV_E ad σ hk
    have := h1 k x hx
    rw [e, hfr] at this
    cases this
  have hadb : ad b ≠ N := by have := hlive b vb; rw [cad_lo (by omega)] at this; exact this
  have hc : ∀ k, cV k → k ≠ b + 100 → cad ad τ k = cad ad σ k := fun k hk hk2 => by
    unfold cad
    split
    · rfl
    · rcases hk with hk | hk | hk
      · omega
      · omega
      · by_cases e : k - 100 = b
        · omega
        · rw [to _ e (by omega)]
  have hcl : cad ad τ (b + 100) = N := by rw [cad_limb hb, tb0]
  have hE : ∀ k, cV k → k ≠ b → k ≠ b + 100 → cE ad τ k = cE ad σ k := fun k hk hk1 hk2 => by
    unfold cE
    rw [to k hk1 hk2]
    split
    · rfl
    · split
      · rfl
      · split
        · rw [to (k - 100) (by omega) (by omega)]
        · rfl
  refine ⟨fun k e hk => ?_, fun i j hi hj hij => ?_, fun a e ha => ?_, fun c hc' => ?_, ?_, h7⟩
  · have hv := cE_v hk
    by_cases e1 : k = b
    · subst e1
      rw [cE_big ad τ hb, tb] at hk
      cases hk
      rw [cad_lo (by omega), xup_s]
      rfl
    · by_cases e2 : k = b + 100
      · subst e2
        rw [cE_limb ad τ hb, tb1, tl] at hk
        cases hk
        rw [hcl, xup_n (fun z => hadb z.symm), xup_s]
      · rw [hE k hv e1 e2] at hk
        have := h1 k e hk
        rw [hc k hv e2, xup_n (fun z => e1 (h2 k b hv vb (by rw [z, cad_lo (by omega)]))), xup_n (hlive k hv)]
        exact this
  · by_cases ei : i = b + 100
    · by_cases ej : j = b + 100
      · rw [ei, ej]
      · rw [ei, hcl, hc j hj ej] at hij
        exact absurd hij.symm (hlive j hj)
    · by_cases ej : j = b + 100
      · rw [ej, hcl, hc i hi ei] at hij
        exact absurd hij (hlive i hi)
      · rw [hc i hi ei, hc j hj ej] at hij
        exact h2 i j hi hj hij
  · have ⟨z1, z2⟩ := h3 a e ha
    have haN : a ≠ N := fun z => by rw [z, hfr] at z1; cases z1
    refine ⟨?_, fun k hk => ?_⟩
    · rw [xup_n (fun z => z2 b vb (by rw [z, cad_lo (by omega)])), xup_n haN]
      exact z1
    · by_cases ek : k = b + 100
      · rw [ek, hcl]; exact haN
      · rw [hc k hk ek]; exact z2 k hk
  · by_cases e : c = b
    · rw [e, tb1]
      have := (h4 b hb).1
      omega
    · rw [to c e (by have := hc'.2; omega)]
      exact h4 c hc'
  · have hl := lsum_upd (σ := σ) (σ' := τ) hb (fun c hc' hcb => by rw [to c hcb (by have := hc'.2; omega)])
    rw [tb1] at hl
    have := (h4 b hb).1
    omega

set_option maxRecDepth 100000 in
set_option maxHeartbeats 4000000 in
theorem b_makeRoom (G : xG) (l : Launch) (ad : Nat → Nat) (F : xM) (R : Nat × Nat) (d : Nat) (σ : cZ) (b n w : Nat) (hb : isBg b) (hw : w ≤ 1024) (hn : n ≤ (σ b).2.2 1) (hs : (σ b).1 1 = nI n) : cC G l ad F R YX2_makeRoom (d + 2) [.ref (ad b), .int (nI w)] σ (fun r σ' => r = none ∧ kp [b, b + 100] σ σ' ∧ (σ' b).1 = (σ b).1 ∧ w ≤ (σ' b).2.2 1 ∧ (σ b).2.2 1 ≤ (σ' b).2.2 1 ∧ (∀ j, j < n → (σ' (b + 100)).1 j = (σ (b + 100)).1 j) ∧ ∀ j, n ≤ j → j < w → (σ' (b + 100)).1 j = nI 0) := by
  refine cC.of (ls := [(0, .ref (ad b)), (1, .int (nI w))]) (by decide) (Nat.le_of_ble_eq_true rfl) rfl fun M N S hM => ?_
  have hll := hM.2.2.2.1 b hb
  have tail : ∀ (σ1 : cZ) (M : xM) (N S : Nat), kp [b, b + 100] σ σ1 → (σ1 b).1 = (σ b).1 → w ≤ (σ1 b).2.2 1 → (σ b).2.2 1 ≤ (σ1 b).2.2 1 → (∀ j, j < n → (σ1 (b + 100)).1 j = (σ (b + 100)).1 j) → cA G ad F R σ1 M N S → xX G l YX2_makeRoom (d + 2) (cQ G ad F R (fun r σ' => r = none ∧ kp [b, b + 100] σ σ' ∧ (σ' b).1 = (σ b).1 ∧ w ≤ (σ' b).2.2 1 ∧ (σ b).2.2 1 ≤ (σ' b).2.2 1 ∧ (∀ j, j < n → (σ' (b + 100)).1 j = (σ (b + 100)).1 j) ∧ ∀ j, n ≤ j → j < w → (σ' (b + 100)).1 j = nI 0)) 23 [(0, .ref (ad b)), (1, .int (nI w))] [] M N S := by
    intro σ1 M N S k1 k2 k3 k4 k5 hM
    have hs1 : (σ1 b).1 1 = nI n := by rw [k2]; exact hs
    have hl1 := hM.2.2.2.1 b hb

    refine x_iload_n (q := 24) dX2_makeRoom_23 rfl rfl ?_
    refine x_aload_n (q := 25) dX2_makeRoom_24 rfl rfl ?_
    refine c_get (q := 28) (k := b) (f := 1) hM (cE_big _ _ hb) xclX2 fwX2_13 (by decide) dX2_makeRoom_25 rfl rfl ?_
    rw [hs1]
    refine xn_icmp_le (q := 31) 44 dX2_makeRoom_28 (by decide) rfl (by omega) (by omega) (fun hc28 => ?_) (fun hc28 => ?_)
    · exact x_vret rfl dX2_makeRoom_44 (c_ret hM ⟨rfl, k1, k2, k3, k4, k5, fun j h1 h2 => absurd h2 (by omega)⟩)
    · refine x_aload_n (q := 32) dX2_makeRoom_31 rfl rfl ?_
      refine c_get (q := 35) (k := b) (f := 2) hM (cE_big _ _ hb) xclX2 fwX2_9 (by decide) dX2_makeRoom_32 rfl rfl ?_
      refine x_aload_n (q := 36) dX2_makeRoom_35 rfl rfl ?_
      refine c_get (q := 39) (k := b) (f := 1) hM (cE_big _ _ hb) xclX2 fwX2_13 (by decide) dX2_makeRoom_36 rfl rfl ?_
      rw [hs1]
      refine x_iload_n (q := 40) dX2_makeRoom_39 rfl rfl ?_
      refine xn_iconst (q := 41) 0 dX2_makeRoom_40 rfl (by decide) ?_
      refine x_callS (q := 44) (As := [_, _, _, _]) imJ7_fill_fda19 isJ7_fill_fda19 mwX2_88 dX2_makeRoom_41 rfl rfl rfl (Nat.le_of_ble_eq_true rfl) ?_
      refine (j_fillI G l d M N S _ ((σ1 b).2.2 1) n w _ (nI 0) (by omega) k3 (by omega) (hM.limb hb)).mono (fun r9 M9 N9 S9 hp => ?_)
      obtain ⟨rfl, q2, q3, f', q4, q5, q6⟩ := hp
      rw [q2, q3]
      have hM' := hM.setl hb f'
      rw [← q6] at hM'
      show xX G l _ _ _ _ _ _ M9 N S
      exact x_vret rfl dX2_makeRoom_44 (c_ret hM' ⟨rfl, k1.trans (fun j hj => mu_n (by simp at hj; omega)), by rw [mu_n (by omega)]; exact k2, by rw [mu_n (by omega)]; exact k3, by rw [mu_n (by omega)]; exact k4, fun j hj => by rw [mu_s]; show f' j = _; rw [q5 j (by omega)]; exact k5 j hj, fun j h1 h2 => by rw [mu_s]; exact q4 j h1 h2⟩)

  refine x_iload_n (q := 1) dX2_makeRoom_0 rfl rfl ?_
  refine x_aload_n (q := 2) dX2_makeRoom_1 rfl rfl ?_
  refine c_get (q := 5) (k := b) (f := 2) hM (cE_big _ _ hb) xclX2 fwX2_9 (by decide) dX2_makeRoom_2 rfl rfl ?_
  refine x_alen (q := 6) (nI _) 0 dX2_makeRoom_5 rfl (hM.limb hb) rfl rfl ?_
  refine xn_icmp_le (q := 9) 23 dX2_makeRoom_6 (by decide) rfl (by omega) (by omega) (fun hc6 => ?_) (fun hc6 => ?_)
  · exact tail σ M N S kp.rfl' rfl (by omega) (Nat.le_refl _) (fun _ _ => rfl) hM
  · refine x_aload_n (q := 10) dX2_makeRoom_9 rfl rfl ?_
    refine x_aload_n (q := 11) dX2_makeRoom_10 rfl rfl ?_
    refine c_get (q := 14) (k := b) (f := 2) hM (cE_big _ _ hb) xclX2 fwX2_9 (by decide) dX2_makeRoom_11 rfl rfl ?_
    refine xn_iconst (q := 15) 2 dX2_makeRoom_14 rfl (by decide) ?_
    refine x_iload_n (q := 16) dX2_makeRoom_15 rfl rfl ?_
    refine xn_imul (q := 17) dX2_makeRoom_16 rfl ?_
    refine x_callS (q := 20) (As := [_, _]) imJ7_copyOf_59c91 isJ7_copyOf_59c91 mwX2_82 dX2_makeRoom_17 rfl rfl rfl (Nat.le_of_ble_eq_true rfl) ?_
    have hsum := lsum_le (fun c hc => (hM.2.2.2.1 c hc).2)
    have hacc := hM.2.2.2.2
    have hupd := lsum_upd (σ := σ) (σ' := mu σ b ((σ b).1, (σ b).2.1, mu (σ b).2.2 1 (2 * w))) hb (fun c _ hc => by rw [mu_n hc])
    have hup2 := lsum_le (σ := mu σ b ((σ b).1, (σ b).2.1, mu (σ b).2.2 1 (2 * w))) (fun c hc => by
      by_cases e : c = b
      · rw [e, mu_s]; show mu (σ b).2.2 1 (2 * w) 1 ≤ 2048; rw [mu_s]; omega
      · rw [mu_n e]; exact (hM.2.2.2.1 c hc).2)
    rw [show (mu σ b ((σ b).1, (σ b).2.1, mu (σ b).2.2 1 (2 * w)) b).2.2 1 = 2 * w by rw [mu_s]; show mu (σ b).2.2 1 (2 * w) 1 = _; rw [mu_s]] at hupd
    refine (j_copyOf G l d M N S _ ((σ b).2.2 1) (2 * w) _ (by omega) (by omega) (hM.limb hb) (by omega) (by omega)).mono (fun r9 M9 N9 S9 hp => ?_)
    obtain ⟨rfl, q2, q3, hfr, f', q5, q6⟩ := hp
    rw [q2, q3]
    have hM' := hM.grow hb hfr (m := 2 * w) (by omega) (by omega) f'
    have hob : M9 (ad b) = some (.inr (5, [.int ((σ b).1 0), .int ((σ b).1 1), .ref ((σ b).2.2 0)])) := by
      rw [q6, xup_n (fun z => by have := hM.obj (cE_big ad σ hb); rw [z, hfr] at this; cases this)]
      exact hM.obj (cE_big ad σ hb)
    refine x_put (q := 23) xclX2 2 fwX2_9 (by decide) rfl dX2_makeRoom_20 rfl rfl rfl rfl (Nat.le_of_ble_eq_true rfl) hob ?_
    rw [q6]
    show xX G l _ _ _ _ _ _ (xup (xup M N (.inl (.int, 2 * w, .inl f'))) (ad b) (.inr (5, [.int ((σ b).1 0), .int ((σ b).1 1), .ref N]))) (N + 1) (S + 2 * w)
    exact tail _ _ _ _ (fun j hj => by simp at hj; rw [mu_n (by omega), mu_n (by omega)]) (by rw [mu_s]) (by rw [mu_s]; show w ≤ mu (mu (σ b).2.2 0 N) 1 (2 * w) 1; rw [mu_s]; omega) (by rw [mu_s]; show _ ≤ mu (mu (σ b).2.2 0 N) 1 (2 * w) 1; rw [mu_s]; omega) (fun j hj => by rw [mu_n (by omega), mu_s]; exact q5 j (by omega)) hM'

end XY
