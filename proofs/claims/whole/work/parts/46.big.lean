section XX
/-- Big b holds the whole number v -/
def Bg (σ : cZ) (b : Nat) (v : Int) : Prop := ∃ n, nl v.natAbs n ∧ n ≤ (σ b).2.2 1 ∧ (σ b).1 0 = sg v ∧ (σ b).1 1 = nI n ∧ ∀ j, j < n → (σ (b + 100)).1 j = nI (dg v.natAbs j)
theorem kp.rfl' {ks : List Nat} {σ : cZ} : kp ks σ σ := fun _ _ => rfl
theorem kp.trans {ks : List Nat} {σ σ' σ'' : cZ} (h : kp ks σ σ') (h2 : kp ks σ' σ'') : kp ks σ σ'' := fun j hj => (h2 j hj).trans (h j hj)
theorem kp.mono {ks ks' : List Nat} {σ σ' : cZ} (h : kp ks σ σ') (hs : ∀ j, j ∈ ks → j ∈ ks') : kp ks' σ σ' := fun j hj => h j (fun z => hj (hs j z))
theorem Bg.same {σ σ' : cZ} {b : Nat} {v : Int} (h : Bg σ b v) (h1 : σ' b = σ b) (h2 : σ' (b + 100) = σ (b + 100)) : Bg σ' b v := by
  unfold Bg at h ⊢
  rw [h1, h2]
  exact h
theorem kp.bg {ks : List Nat} {σ σ' : cZ} {b : Nat} {v : Int} (h : kp ks σ σ') (h1 : b ∉ ks) (h2 : b + 100 ∉ ks) (hv : Bg σ b v) : Bg σ' b v := hv.same (h b h1) (h _ h2)
theorem num_mk {n m a : Nat} {f : Nat → Nat} (hnm : n ≤ m) (hf : ∀ j, j < m → f j < B9) (hv : a = val f m) (hz : ∀ j, n ≤ j → j < m → f j = 0) (ht : n = 0 ∨ f (n - 1) ≠ 0) : nl a n ∧ ∀ j, j < n → dg a j = f j := by
  have hvn : val f m = val f n := by
    clear hv ht
    induction m with
    | zero => obtain rfl : n = 0 := by omega
              rfl
    | succ m ih =>
      by_cases e : n = m + 1
      · rw [e]
      · rw [← ih (by omega) (fun j hj => hf j (by omega)) (fun j h1 h2 => hz j h1 (by omega))]
        simp only [val]
        rw [hz m (by omega) (by omega)]
        omega
  have hfn : ∀ j, j < n → f j < B9 := fun j hj => hf j (by omega)
  refine ⟨⟨by rw [hv, hvn]; exact val_lt hfn, ?_⟩, fun j hj => ?_⟩
  · rcases ht with e | e
    · exact Or.inl e
    · by_cases e0 : n = 0
      · exact Or.inl e0
      · right
        rw [hv, hvn]
        obtain ⟨k, rfl⟩ : ∃ k, n = k + 1 := ⟨n - 1, by omega⟩
        rw [Nat.add_sub_cancel] at e ⊢
        simp only [val]
        have : 1 * B9 ^ k ≤ f k * B9 ^ k := Nat.mul_le_mul_right _ (by omega)
        omega
  · rw [hv, hvn, dg_val hfn hj]
theorem Bg.mk {σ : cZ} {b n m : Nat} {v : Int} {f : Nat → Nat} (hm : n ≤ (σ b).2.2 1) (hnm : n ≤ m) (hf : ∀ j, j < m → f j < B9) (hv : v.natAbs = val f m) (hz : ∀ j, n ≤ j → j < m → f j = 0) (ht : n = 0 ∨ f (n - 1) ≠ 0) (h1 : (σ b).1 1 = nI n) (h2 : (σ b).1 0 = sg v) (h3 : ∀ j, j < n → (σ (b + 100)).1 j = nI (f j)) : Bg σ b v := by
  obtain ⟨z1, z2⟩ := num_mk hnm hf hv hz ht
  exact ⟨n, z1, hm, h2, h1, fun j hj => by rw [h3 j hj, z2 j hj]⟩
theorem cC.of_x {G : xG} {l : Launch} {ad : Nat → Nat} {F : xM} {R : Nat × Nat} {Y : xY} {d : Nat} {av : List Value} {σ : cZ} {r0 : Option Value} (h : ∀ M N S, xC G l Y d av M N S (fun r M' N' S' => r = r0 ∧ M' = M ∧ N' = N ∧ S' = S)) : cC G l ad F R Y d av σ (fun r σ' => r = r0 ∧ σ' = σ) :=
  fun M N S hM => (h M N S).mono (fun r M' N' S' z => by
    obtain ⟨z1, z2, z3, z4⟩ := z
    subst z2 z3 z4
    exact ⟨σ, hM, z1, rfl⟩)

set_option maxRecDepth 100000 in
set_option maxHeartbeats 4000000 in
theorem b_limbAt (G : xG) (l : Launch) (ad : Nat → Nat) (F : xM) (R : Nat × Nat) (d : Nat) (σ : cZ) (b i : Nat) (hb : isBg b) (v : Int) (hv : Bg σ b v) (hi : i < 2 ^ 31) : cC G l ad F R YX2_limbAt d [.ref (ad b), .int (nI i)] σ (fun r σ' => r = some (.long (lN (dg v.natAbs i))) ∧ σ' = σ) := by
  obtain ⟨n, hn, hlen, h0, h1, hd⟩ := hv
  refine cC.of (ls := [(0, .ref (ad b)), (1, .int (nI i))]) (by decide) (Nat.le_of_ble_eq_true rfl) rfl fun M N S hM => ?_
  have hll := (hM.2.2.2.1 b hb).2

  refine x_iload_n (q := 1) dX2_limbAt_0 rfl rfl ?_
  refine xn_if_lt (q := 4) 22 dX2_limbAt_1 (by decide) rfl (by omega) (fun hc1 => absurd hc1 (by omega)) (fun hc1 => ?_)
  refine x_iload_n (q := 5) dX2_limbAt_4 rfl rfl ?_
  refine x_aload_n (q := 6) dX2_limbAt_5 rfl rfl ?_
  refine c_get (q := 9) (k := b) (f := 1) hM (cE_big _ _ hb) xclX2 fwX2_13 (by decide) dX2_limbAt_6 rfl rfl ?_
  rw [h1]
  refine xn_icmp_ge (q := 12) 22 dX2_limbAt_9 (by decide) rfl (by omega) (by omega) (fun hc9 => ?_) (fun hc9 => ?_)
  · refine xn_lconst (q := 23) 0 dX2_limbAt_22 rfl (by decide) ?_
    exact x_lret rfl dX2_limbAt_23 (c_ret hM ⟨by rw [dg_hi (Nat.lt_of_lt_of_le hn.1 (B9_mono hc9))], rfl⟩)
  · refine x_aload_n (q := 13) dX2_limbAt_12 rfl rfl ?_
    refine c_get (q := 16) (k := b) (f := 2) hM (cE_big _ _ hb) xclX2 fwX2_9 (by decide) dX2_limbAt_13 rfl rfl ?_
    refine x_iload_n (q := 17) dX2_limbAt_16 rfl rfl ?_
    refine c_limb (q := 18) hM hb dX2_limbAt_17 rfl (by omega) ?_
    rw [hd i (by omega)]
    refine xn_i2l (q := 19) dX2_limbAt_18 rfl (Nat.lt_trans (dg_lt _ _) (by decide)) ?_
    refine x_goto 23 dX2_limbAt_19 (by decide) ?_
    exact x_lret rfl dX2_limbAt_23 (c_ret hM ⟨rfl, rfl⟩)

set_option maxRecDepth 100000 in
set_option maxHeartbeats 4000000 in
theorem b_trim (G : xG) (l : Launch) (ad : Nat → Nat) (F : xM) (R : Nat × Nat) (d : Nat) (σ : cZ) (b w : Nat) (hb : isBg b) (v : Int) (f : Nat → Nat) (hw : w ≤ (σ b).2.2 1) (hlim : ∀ j, j < w → (σ (b + 100)).1 j = nI (f j)) (hf : ∀ j, j < w → f j < B9) (hv : v.natAbs = val f w) (hs : v ≠ 0 → (σ b).1 0 = sg v) : cC G l ad F R YX2_trim d [.ref (ad b), .int (nI w)] σ (fun r σ' => r = none ∧ kp [b] σ σ' ∧ (σ' b).2 = (σ b).2 ∧ Bg σ' b v) := by
  refine cC.of (ls := [(0, .ref (ad b)), (1, .int (nI w))]) (by decide) (Nat.le_of_ble_eq_true rfl) rfl fun M N S hM => ?_
  have hll := (hM.2.2.2.1 b hb).2
  have hne : b + 100 ∉ [b] := by simp
  have loop : ∀ (k : Nat) (σ1 : cZ) (M : xM), kp [b] σ σ1 → (σ1 b).2 = (σ b).2 → (σ1 b).1 0 = (σ b).1 0 → (σ1 b).1 1 = nI k → k ≤ w → (∀ j, k ≤ j → j < w → f j = 0) → cA G ad F R σ1 M N S → xX G l YX2_trim d (cQ G ad F R (fun r σ' => r = none ∧ kp [b] σ σ' ∧ (σ' b).2 = (σ b).2 ∧ Bg σ' b v)) 5 [(0, .ref (ad b)), (1, .int (nI w))] [] M N S := by
    intro k
    induction k with
    | zero =>
      intro σ1 M k1 k2 k3 k4 hk hz hM
      have hv0 : v.natAbs = 0 := by rw [hv]; exact (num_mk (n := 0) (Nat.zero_le _) hf rfl (fun j _ h => hz j (Nat.zero_le _) h) (.inl rfl)).1.1 |> fun h => by rw [Nat.pow_zero] at h; omega
      have hv1 : v = 0 := by omega

      refine x_aload_n (q := 6) dX2_trim_5 rfl rfl ?_
      refine c_get (q := 9) (k := b) (f := 1) hM (cE_big _ _ hb) xclX2 fwX2_13 (by decide) dX2_trim_6 rfl rfl ?_
      rw [k4]
      refine xn_if_le (q := 12) 39 dX2_trim_9 (by decide) rfl (by omega) (fun hc9 => ?_) (fun hc9 => absurd hc9 (by omega))
      refine x_aload_n (q := 40) dX2_trim_39 rfl rfl ?_
      refine c_get (q := 43) (k := b) (f := 1) hM (cE_big _ _ hb) xclX2 fwX2_13 (by decide) dX2_trim_40 rfl rfl ?_
      rw [k4]
      refine xn_if_ne (q := 46) 51 dX2_trim_43 (by decide) rfl (by omega) (fun hc43 => absurd rfl hc43) (fun hc43 => ?_)
      refine x_aload_n (q := 47) dX2_trim_46 rfl rfl ?_
      refine xn_iconst (q := 48) 0 dX2_trim_47 rfl (by decide) ?_
      refine c_puti (q := 51) (k := b) (f := 0) hM (cE_big _ _ hb) (by rw [cE_big _ _ hb, mu_s]; rfl) xclX2 fwX2_23 (by decide) rfl rfl (Nat.le_of_ble_eq_true rfl) dX2_trim_48 rfl rfl rfl (fun M σ48 a48 e48 b48 hM => ?_)
      exact x_vret rfl dX2_trim_51 (c_ret hM ⟨rfl, k1.trans a48, b48.trans k2, Bg.mk (n := 0) (m := w) (Nat.zero_le _) (Nat.zero_le _) hf hv (fun j _ h => hz j (Nat.zero_le _) h) (.inl rfl) (by rw [e48, mu_n (by decide), k4]) (by rw [e48, mu_s, hv1]; rfl) (fun j hj => absurd hj (Nat.not_lt_zero j))⟩)

    | succ k ih =>
      intro σ1 M k1 k2 k3 k4 hk hz hM
      have el : (σ1 (b + 100)).1 k = nI (f k) := by rw [k1 _ hne]; exact hlim k (by omega)
      have hl1 : (σ1 b).2.2 1 = (σ b).2.2 1 := by rw [k2]
      have hfk : f k < 1000000000 := hf k (by omega)

      refine x_aload_n (q := 6) dX2_trim_5 rfl rfl ?_
      refine c_get (q := 9) (k := b) (f := 1) hM (cE_big _ _ hb) xclX2 fwX2_13 (by decide) dX2_trim_6 rfl rfl ?_
      rw [k4]
      refine xn_if_le (q := 12) 39 dX2_trim_9 (by decide) rfl (by omega) (fun hc9 => absurd hc9 (by omega)) (fun hc9 => ?_)
      refine x_aload_n (q := 13) dX2_trim_12 rfl rfl ?_
      refine c_get (q := 16) (k := b) (f := 2) hM (cE_big _ _ hb) xclX2 fwX2_9 (by decide) dX2_trim_13 rfl rfl ?_
      refine x_aload_n (q := 17) dX2_trim_16 rfl rfl ?_
      refine c_get (q := 20) (k := b) (f := 1) hM (cE_big _ _ hb) xclX2 fwX2_13 (by decide) dX2_trim_17 rfl rfl ?_
      rw [k4]
      refine xn_iconst (q := 21) 1 dX2_trim_20 rfl (by decide) ?_
      refine xn_isub (q := 22) dX2_trim_21 rfl (by omega) ?_
      refine c_limb (q := 23) hM hb dX2_trim_22 rfl (by omega) ?_
      rw [show k + 1 - 1 = k by omega, el]
      refine xn_if_ne (q := 26) 39 dX2_trim_23 (by decide) rfl (by omega) (fun hc23 => ?_) (fun hc23 => ?_)
      · refine x_aload_n (q := 40) dX2_trim_39 rfl rfl ?_
        refine c_get (q := 43) (k := b) (f := 1) hM (cE_big _ _ hb) xclX2 fwX2_13 (by decide) dX2_trim_40 rfl rfl ?_
        rw [k4]
        refine xn_if_ne (q := 46) 51 dX2_trim_43 (by decide) rfl (by omega) (fun hc43 => ?_) (fun hc43 => absurd hc43 (by omega))
        have hv1 : v ≠ 0 := fun e => by
          have := (num_mk (n := k + 1) (by omega) hf hv (fun j h1 h2 => hz j h1 h2) (.inr (by rw [Nat.add_sub_cancel]; omega))).1.2
          have h9 := B9_pos k
          rw [Nat.add_sub_cancel, e] at this
          have h8 : (0 : Int).natAbs = 0 := rfl
          omega
        exact x_vret rfl dX2_trim_51 (c_ret hM ⟨rfl, k1, k2, Bg.mk (n := k + 1) (m := w) (by omega) (by omega) hf hv hz (.inr (by rw [Nat.add_sub_cancel]; omega)) k4 (by rw [k3]; exact hs hv1) (fun j hj => by rw [k1 _ hne]; exact hlim j (by omega))⟩)
      · refine x_aload_n (q := 27) dX2_trim_26 rfl rfl ?_
        refine x_dup (q := 28) dX2_trim_27 rfl rfl ?_
        refine c_get (q := 31) (k := b) (f := 1) hM (cE_big _ _ hb) xclX2 fwX2_13 (by decide) dX2_trim_28 rfl rfl ?_
        rw [k4]
        refine xn_iconst (q := 32) 1 dX2_trim_31 rfl (by decide) ?_
        refine xn_isub (q := 33) dX2_trim_32 rfl (by omega) ?_
        refine c_puti (q := 36) (k := b) (f := 1) hM (cE_big _ _ hb) (by rw [cE_big _ _ hb, mu_s]; rfl) xclX2 fwX2_13 (by decide) rfl rfl (Nat.le_of_ble_eq_true rfl) dX2_trim_33 rfl rfl rfl (fun M σ33 a33 e33 b33 hM => ?_)
        refine x_goto 5 dX2_trim_36 (by decide) ?_
        exact ih σ33 M (k1.trans a33) (b33.trans k2) (by rw [e33, mu_n (by decide)]; exact k3) (by rw [e33, mu_s]; rfl) (by omega) (fun j h1 h2 => by
          by_cases ej : j = k
          · rw [ej]; exact hc23
          · exact hz j (by omega) h2) hM

  refine x_aload_n (q := 1) dX2_trim_0 rfl rfl ?_
  refine x_iload_n (q := 2) dX2_trim_1 rfl rfl ?_
  refine c_puti (q := 5) (k := b) (f := 1) hM (cE_big _ _ hb) (by rw [cE_big _ _ hb, mu_s]; rfl) xclX2 fwX2_13 (by decide) rfl rfl (Nat.le_of_ble_eq_true rfl) dX2_trim_2 rfl rfl rfl (fun M σ2 a2 e2 b2 hM => ?_)
  exact loop w σ2 M a2 b2 (by rw [e2, mu_n (by decide)]) (by rw [e2, mu_s]) (Nat.le_refl _) (fun j h1 h2 => absurd h2 (by omega)) hM

end XX
