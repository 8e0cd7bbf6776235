section XC4
def fr0 (c : mCf) : fS := (fun i j => puP c (i * 10 + j), 1, fun _ => false)
def swP (c : mCf) : Nat → fS
  | 0 => fr0 c
  | k + 1 => swC (frP c) k (swP c k)
/-- the frame's numbers stay small: for the mathematics -/
def frOk (c : mCf) : Prop := ∀ k, k ≤ 10 → (∀ i j, i < 10 → j ≤ i → ((swP c k).1 i j).natAbs < B9 ^ 12) ∧ (swP c k).2.1.natAbs < B9 ^ 12
def slC (c : mCf) : Nat → Bool := slP c (frP c) (swP c 10).2.2 (swP c 10).1
/-- the frame is prepared for this row of beams -/
def Fk (σ : cZ) (c : mCf) : Prop := (σ 4).2.1 12 = lN (scP c c.m) ∧ (∀ e, e < 2 * c.m → (σ 28).1 e = nI (esP c e)) ∧ (∀ s, s < 10 → (σ 29).1 s = bI (frP c s)) ∧ (∀ s, s < 100 → (σ 32).2.1 s = iL (puP c s)) ∧ Cll σ (swP c 10).1 ∧ Bg σ 155 (swP c 10).2.1 ∧ Slk σ (slC c)
def Fi (σ : cZ) (c : mCf) : Prop := (σ 4).1 13 = nI 0 ∨ ((σ 4).1 13 = nI 1 ∧ Fk σ c)
def pK : List Nat := [4, 27, 28, 29, 31, 32] ++ cK
theorem mem_pK {j : Nat} : j ∈ pK ↔ (j = 4 ∨ j = 27 ∨ j = 28 ∨ j = 29 ∨ j = 31 ∨ j = 32) ∨ j = 30 ∨ (100 ≤ j ∧ j < 159) ∨ (200 ≤ j ∧ j < 259) := by
  unfold pK
  rw [List.mem_append, mem_cK]
  simp
theorem kp.pk {ks : List Nat} {σ σ' : cZ} (h : kp ks σ σ') (hk : ∀ j ∈ ks, j = 4 ∨ j = 27 ∨ j = 28 ∨ j = 29 ∨ j = 31 ∨ j = 32) : kp pK σ σ' := h.mono (fun j hj => mem_pK.mpr (.inl (hk j hj)))
theorem kp.ck {σ σ' : cZ} (h : kp cK σ σ') : kp pK σ σ' := h.mono (fun j hj => mem_pK.mpr (.inr (mem_cK.mp hj)))
theorem kp.cn {σ σ' : cZ} (h : kp cK σ σ') {j : Nat} (h1 : j < 30 ∨ (30 < j ∧ j < 100)) : σ' j = σ j := h j (fun z => by rw [mem_cK] at z; omega)
theorem bmk {ks : List Nat} {σ σ' : cZ} {c : mCf} (h : Bm σ 1 c) (k : kp ks σ σ') (hn : ∀ j ∈ ks, j = 4 ∨ 20 ≤ j) : Bm σ' 1 c := h.kp k (fun i hi hj => by have := hn i hj; simp at hi; omega)

set_option maxRecDepth 100000 in
set_option maxHeartbeats 4000000 in
theorem b_prepare (G : xG) (l : Launch) (ad : Nat → Nat) (F : xM) (R : Nat × Nat) (d : Nat) (σ : cZ) (c : mCf) (hc : Bm σ 1 c) (hok : okL c) (hfo : frOk c) (hF : Fi σ c) : cC G l ad F R YX4_prepare (d + 6) [.ref (ad 4)] σ (fun r σ' => r = none ∧ kp pK σ σ' ∧ (σ' 4).1 13 = nI 1 ∧ Fk σ' c) := by
  have loop : ∀ (u i : Nat) (σ1 : cZ) (M : xM) (N S : Nat), i + u = 10 → kp pK σ σ1 → Bm σ1 1 c → (σ1 4).2.1 12 = lN (scP c c.m) → (∀ e, e < 2 * c.m → (σ1 28).1 e = nI (esP c e)) → (∀ s, s < 10 → (σ1 29).1 s = bI (frP c s)) → (∀ s, s < 100 → (σ1 32).2.1 s = iL (puP c s)) → Cll σ1 (swP c i).1 → Bg σ1 155 (swP c i).2.1 → (∀ s, s < 10 → (σ1 30).1 s = bI ((swP c i).2.2 s)) → cA G ad F R σ1 M N S → xX G l YX4_prepare (d + 6) (cQ G ad F R (fun r σ' => r = none ∧ kp pK σ σ' ∧ (σ' 4).1 13 = nI 1 ∧ Fk σ' c)) 25 [(0, .ref (ad 4)), (1, .int (nI i))] [] M N S := by
    intro u
    induction u with
    | zero =>
      intro i σ1 M N S hi k1 k2 k3 k4 k5 k6 k7 k8 k9 hM
      obtain rfl : i = 10 := by omega

      refine x_iload_n (q := 26) dX4_prepare_25 rfl rfl ?_
      refine xn_bipush (q := 28) 10 dX4_prepare_26 rfl (by decide) ?_
      refine xn_icmp_ge (q := 31) 42 dX4_prepare_28 (by decide) rfl (by omega) (by omega) (fun hc28 => ?_) (fun hc28 => absurd hc28 (by omega))
      refine x_aload_n (q := 43) dX4_prepare_42 rfl rfl ?_
      refine c_call (q := 46) (k := 4) (As := []) hM rfl imX4_findLoose ivX4_findLoose ilX4_findLoose mwX4_78 xciX4 dX4_prepare_43 rfl rfl rfl (Nat.le_of_ble_eq_true rfl) ?_
      refine (b_findLoose G l ad F R (d + 2) σ1 c k2 k4 (frP c) (swP c 10).2.2 (swP c 10).1 k7 k5 k9).mono (fun x9 σ43 hp => ?_)
      obtain ⟨rfl, q1, q2⟩ := hp
      intro M N S hM
      show xX G l _ (d + 6) _ _ _ _ M N S
      refine x_aload_n (q := 47) dX4_prepare_46 rfl rfl ?_
      refine xn_iconst (q := 48) 1 dX4_prepare_47 rfl (by decide) ?_
      refine c_puti (q := 51) (k := 4) (f := 13) hM rfl rfl xclX4 fwX4_58 (by decide) rfl rfl (Nat.le_of_ble_eq_true rfl) dX4_prepare_48 rfl rfl rfl (fun M σ48 a48 e48 b48 hM => ?_)
      exact x_vret rfl dX4_prepare_51 (c_ret hM ⟨rfl, k1.trans ((q1.pk (by decide)).trans (a48.pk (by decide))), by rw [e48, mu_s], by rw [b48, q1 4 (by decide)]; exact k3, fun e he => by rw [a48 28 (by decide), q1 28 (by decide)]; exact k4 e he, fun s hs => by rw [a48 29 (by decide), q1 29 (by decide)]; exact k5 s hs, fun s hs => by rw [a48 32 (by decide), q1 32 (by decide)]; exact k6 s hs, (k7.keep q1 (fun j hj => by simp at hj; omega)).keep a48 (fun j hj => by simp at hj; omega), a48.bg (by decide) (by decide) (q1.bg (by decide) (by decide) k8), fun k hk => by rw [a48 31 (by decide)]; exact q2 k hk⟩)

    | succ u ih =>
      intro i σ1 M N S hi k1 k2 k3 k4 k5 k6 k7 k8 k9 hM
      have hb := hfo i (by omega)

      refine x_iload_n (q := 26) dX4_prepare_25 rfl rfl ?_
      refine xn_bipush (q := 28) 10 dX4_prepare_26 rfl (by decide) ?_
      refine xn_icmp_ge (q := 31) 42 dX4_prepare_28 (by decide) rfl (by omega) (by omega) (fun hc28 => absurd hc28 (by omega)) (fun hc28 => ?_)
      refine x_aload_n (q := 32) dX4_prepare_31 rfl rfl ?_
      refine x_iload_n (q := 33) dX4_prepare_32 rfl rfl ?_
      refine c_call (q := 36) (k := 4) (As := [_]) hM rfl imX4_sweep ivX4_sweep ilX4_sweep mwX4_74 xciX4 dX4_prepare_33 rfl rfl rfl (Nat.le_of_ble_eq_true rfl) ?_
      refine (b_sweep G l ad F R d σ1 (frP c) i (by omega) (swP c i).1 (swP c i).2.1 (swP c i).2.2 k7 k8 k5 k9 (fun a b h1 h2 => B9up (hb.1 a b h1 h2) (by decide)) (B9up hb.2 (by decide))).mono (fun x9 σ33 hp => ?_)
      obtain ⟨rfl, q1, q2, q3, q4⟩ := hp
      intro M N S hM
      show xX G l _ (d + 6) _ _ _ _ M N S
      refine xn_iinc (q := 39) (ls' := [(0, _), (1, _)]) [1, 0] 1 dX4_prepare_36 rfl rfl (by decide) (by decide) rfl ?_
      refine x_goto 25 dX4_prepare_39 (by decide) ?_
      exact ih (i + 1) σ33 M N S (by omega) (k1.trans q1.ck) (bmk k2 q1 (fun j hj => by rw [mem_cK] at hj; omega)) (by rw [q1.cn (by omega)]; exact k3) (by rw [q1.cn (by omega)]; exact k4) (by rw [q1.cn (by omega)]; exact k5) (by rw [q1.cn (by omega)]; exact k6) q2 q3 q4 hM

  refine cC.of (ls := [(0, .ref (ad 4))]) (by decide) (Nat.le_of_ble_eq_true rfl) rfl fun M N S hM => ?_

  rcases hF with hF0 | ⟨hF1, hFk⟩

  · refine x_aload_n (q := 1) dX4_prepare_0 rfl rfl ?_
    refine c_get (q := 4) (k := 4) (f := 13) hM rfl xclX4 fwX4_58 (by decide) dX4_prepare_1 rfl rfl ?_
    refine x_topi (y := nI 0) (by exact hF0) ?_
    refine xn_if_ne (q := 7) 51 dX4_prepare_4 (by decide) rfl (by omega) (fun hc4 => absurd rfl hc4) (fun hc4 => ?_)
    refine x_aload_n (q := 8) dX4_prepare_7 rfl rfl ?_
    refine c_call (q := 11) (k := 4) (As := []) hM rfl imX4_findScale ivX4_findScale ilX4_findScale mwX4_62 xciX4 dX4_prepare_8 rfl rfl rfl (Nat.le_of_ble_eq_true rfl) ?_
    refine (b_findScale G l ad F R (d + 4) σ c hc hok).mono (fun x9 σ8 hp => ?_)
    obtain ⟨rfl, a1, s1, s1b⟩ := hp
    intro M N S hM
    show xX G l _ (d + 6) _ _ _ _ M N S
    have c1 : Bm σ8 1 c := bmk hc a1 (by decide)
    refine x_aload_n (q := 12) dX4_prepare_11 rfl rfl ?_
    refine c_call (q := 15) (k := 4) (As := []) hM rfl imX4_layOut ivX4_layOut ilX4_layOut mwX4_65 xciX4 dX4_prepare_12 rfl rfl rfl (Nat.le_of_ble_eq_true rfl) ?_
    refine (b_layOut G l ad F R (d + 5) σ8 c c1).mono (fun x9 σ12 hp => ?_)
    obtain ⟨rfl, a2, s2, s3⟩ := hp
    intro M N S hM
    show xX G l _ (d + 6) _ _ _ _ M N S
    have c2 : Bm σ12 1 c := bmk c1 a2 (by decide)
    refine x_aload_n (q := 16) dX4_prepare_15 rfl rfl ?_
    refine c_call (q := 19) (k := 4) (As := []) hM rfl imX4_assemble ivX4_assemble ilX4_assemble mwX4_68 xciX4 dX4_prepare_16 rfl rfl rfl (Nat.le_of_ble_eq_true rfl) ?_
    refine (b_assemble G l ad F R (d + 4) σ12 c c2 hok s2 (by rw [a2 4 (by decide)]; exact s1)).mono (fun x9 σ16 hp => ?_)
    obtain ⟨rfl, a3, s4⟩ := hp
    intro M N S hM
    show xX G l _ (d + 6) _ _ _ _ M N S
    have c3 : Bm σ16 1 c := bmk c2 a3 (by decide)
    refine x_aload_n (q := 20) dX4_prepare_19 rfl rfl ?_
    refine c_call (q := 23) (k := 4) (As := []) hM rfl imX4_fillCells ivX4_fillCells ilX4_fillCells mwX4_71 xciX4 dX4_prepare_20 rfl rfl rfl (Nat.le_of_ble_eq_true rfl) ?_
    refine (b_fillCells G l ad F R (d + 3) σ16 c hok s4).mono (fun x9 σ20 hp => ?_)
    obtain ⟨rfl, a4, s5, s6, s7⟩ := hp
    intro M N S hM
    show xX G l _ (d + 6) _ _ _ _ M N S
    refine xn_iconst (q := 24) 0 dX4_prepare_23 rfl (by decide) ?_
    refine x_istore_n (q := 25) (ls' := [(0, _), (1, _)]) [1, 0] dX4_prepare_24 rfl (by decide) rfl ?_
    exact loop 10 0 σ20 M N S (by decide) ((a1.pk (by decide)).trans ((a2.pk (by decide)).trans ((a3.pk (by decide)).trans a4.ck))) (bmk c3 a4 (fun j hj => by rw [mem_cK] at hj; omega)) (by rw [a4.cn (by omega), a3 4 (by decide), a2 4 (by decide)]; exact s1) (by rw [a4.cn (by omega), a3 28 (by decide)]; exact s2) (by rw [a4.cn (by omega), a3 29 (by decide)]; exact s3) (by rw [a4.cn (by omega)]; exact s4) s6 s7 s5 hM

  · refine x_aload_n (q := 1) dX4_prepare_0 rfl rfl ?_
    refine c_get (q := 4) (k := 4) (f := 13) hM rfl xclX4 fwX4_58 (by decide) dX4_prepare_1 rfl rfl ?_
    refine x_topi (y := nI 1) (by exact hF1) ?_
    refine xn_if_ne (q := 7) 51 dX4_prepare_4 (by decide) rfl (by omega) (fun hc4 => ?_) (fun hc4 => absurd hc4 (by decide))
    exact x_vret rfl dX4_prepare_51 (c_ret hM ⟨rfl, kp.rfl', hF1, hFk⟩)

end XC4
