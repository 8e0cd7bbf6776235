section XA7
theorem val_cut {f : Nat → Nat} {m n : Nat} (hmn : m ≤ n) (hz : ∀ j, m ≤ j → j < n → f j = 0) : val f n = val f m := by
  induction n with
  | zero => obtain rfl : m = 0 := by omega
            rfl
  | succ n ih =>
    by_cases e : m = n + 1
    · rw [e]
    · rw [val_succ, hz n (by omega) (by omega), ih (by omega) (fun j h1 h2 => hz j h1 (by omega))]
      omega
theorem val_ge {f : Nat → Nat} {n j : Nat} (h : j < n) : f j * B9 ^ j ≤ val f n := by
  induction n with
  | zero => omega
  | succ n ih =>
    rw [val_succ]
    by_cases e : j = n
    · rw [e]; omega
    · have := ih (by omega); omega
theorem val_small {f : Nat → Nat} {n m j : Nat} (h : val f n < B9 ^ m) (h1 : m ≤ j) (h2 : j < n) : f j = 0 := by
  rcases Nat.eq_zero_or_pos (f j) with e | e
  · exact e
  · exfalso
    have a1 := val_ge (f := f) h2
    have a2 : 1 * B9 ^ j ≤ f j * B9 ^ j := Nat.mul_le_mul_right _ e
    have a3 := B9_mono h1
    omega
theorem val_set {f : Nat → Nat} {n k x : Nat} (h : k < n) (hk : f k = 0) : val (mu f k x) n = val f n + x * B9 ^ k := by
  induction n with
  | zero => omega
  | succ n ih =>
    rw [val_succ, val_succ]
    by_cases e : k = n
    · subst e
      rw [mu_s, hk, val_congr (g := f) (fun j hj => mu_n (by omega))]
      omega
    · rw [ih (by omega), mu_n (fun z => e z.symm)]
      omega
theorem kp_be {b e : Nat} {σ σ' : cZ} (h : kp [b, b + 100] σ σ') : kp [b, b + 100, e, e + 100] σ σ' := h.mono (fun j hj => by simp at hj ⊢; omega)
theorem kp_eb {b e : Nat} {σ σ' : cZ} (h : kp [e, e + 100] σ σ') : kp [b, b + 100, e, e + 100] σ σ' := h.mono (fun j hj => by simp at hj ⊢; omega)
theorem tdiv_small {x y : Int} (h : x.natAbs < y.natAbs) : x.tdiv y = 0 ∧ x.tmod y = x := by
  have h1 : (x.tdiv y).natAbs = 0 := by rw [Int.natAbs_tdiv]; exact Nat.div_eq_of_lt h
  have h2 : x.tdiv y = 0 := by omega
  have h3 := Int.mul_tdiv_add_tmod x y
  rw [h2, Int.mul_zero, Int.zero_add] at h3
  exact ⟨h2, h3⟩
theorem tdiv_sg {x y : Int} (h : x.tdiv y ≠ 0) : sg x * sg y = sg (x.tdiv y) := by
  have h1 := Int.sign_tdiv x y
  rw [if_neg (fun z => h (tdiv_small z).1), ← Int.sign_mul] at h1
  rw [sg_mulQ, sg_iI, sg_iI, h1]
theorem tmod_sg {x y : Int} (h : x.tmod y ≠ 0) : sg x = sg (x.tmod y) := by
  have h1 := Int.sign_tmod x y
  rw [if_neg (fun z => h (Int.tmod_eq_zero_of_dvd z))] at h1
  rw [sg_iI, sg_iI (x.tmod y), h1]
theorem div_mod_of {A D Q r : Nat} (h : Q * D + r = A) (hr : r < D) : A / D = Q ∧ A % D = r := by
  subst h
  rw [Nat.add_comm, Nat.mul_comm, Nat.add_mul_div_left _ _ (by omega), Nat.div_eq_of_lt hr, Nat.zero_add, Nat.add_mul_mod_self_left, Nat.mod_eq_of_lt hr]
  exact ⟨rfl, rfl⟩

set_option maxRecDepth 100000 in
set_option maxHeartbeats 4000000 in
theorem b_split (G : xG) (l : Launch) (ad : Nat → Nat) (F : xM) (R : Nat × Nat) (d : Nat) (σ : cZ) (b c e : Nat) (hb : isBg b) (hc : isBg c) (he : isBg e) (hbc : b ≠ c) (hbe : b ≠ e) (hce : c ≠ e) (x y : Int) (hx : Bg σ b x) (hy : Bg σ c y) (hxl : x.natAbs < B9 ^ 1000) : cC G l ad F R YX2_split (d + 3) [.ref (ad b), .ref (ad c), .ref (ad e)] σ (fun r σ' => r = none ∧ kp [b, b + 100, e, e + 100] σ σ' ∧ Bg σ' b (x.tmod y) ∧ Bg σ' e (x.tdiv y)) := by
  have hx' := hx
  have hy' := hy
  obtain ⟨n, hn, hlen, h0, h1, hdg⟩ := hx
  obtain ⟨m, hm, hlen2, g0, g1, gdg⟩ := hy
  have hn1 := nl_of_le hn hxl
  obtain ⟨x1, x2, x3, x4⟩ := bg_ne hb hc hbc
  obtain ⟨y1, y2, y3, y4⟩ := bg_ne hb he hbe
  obtain ⟨z1, z2, z3, z4⟩ := bg_ne hc he hce
  have ck : c ∉ [b, b + 100, e, e + 100] := fun h => by simp at h x1 z3; omega
  have ck2 : c + 100 ∉ [b, b + 100, e, e + 100] := fun h => by simp at h x2 z4; omega
  have sy := sign_bd y
  have hB : B9 = 1000000000 := rfl
  refine cC.of (ls := [(0, .ref (ad b)), (1, .ref (ad c)), (2, .ref (ad e))]) (by decide) (Nat.le_of_ble_eq_true rfl) rfl fun M N S hM => ?_
  have hl0 := hM.2.2.2.1 c hc
  have loop : ∀ (t : Nat), m ≤ n → 1 ≤ m → t ≤ 8 → 100000000 ≤ y.natAbs * 10 ^ t / B9 ^ (m - 1) → y.natAbs * 10 ^ t / B9 ^ (m - 1) < 1000000000 → ∀ (k : Nat) (σ1 : cZ) (f q : Nat → Nat) (M : xM) (N S : Nat), k ≤ n - m + 1 → kp [b, b + 100, e, e + 100] σ σ1 → (σ1 b).1 0 = sg x → (σ1 b).1 1 = nI n → n + 1 ≤ (σ1 b).2.2 1 → (σ1 e).1 0 = sg x * sg y → n - m + 1 ≤ (σ1 e).2.2 1 → (∀ j, j ≤ n → (σ1 (b + 100)).1 j = nI (f j) ∧ f j < B9) → (∀ j, k ≤ j → j < n - m + 1 → (σ1 (e + 100)).1 j = nI (q j) ∧ q j < B9) → (∀ j, j < k → q j = 0) → val q (n - m + 1) * y.natAbs + val f (n + 1) = x.natAbs → val f (n + 1) < y.natAbs * B9 ^ k → cA G ad F R σ1 M N S → xX G l YX2_split (d + 3) (cQ G ad F R (fun r σ' => r = none ∧ kp [b, b + 100, e, e + 100] σ σ' ∧ Bg σ' b (x.tmod y) ∧ Bg σ' e (x.tdiv y))) 86 [(0, .ref (ad b)), (1, .ref (ad c)), (2, .ref (ad e)), (3, .int (nI (n - m))), (4, .long (lN (10 ^ t))), (6, .long (lN (y.natAbs * 10 ^ t / B9 ^ (m - 1)))), (8, .int (iI ((k : Int) - 1)))] [] M N S := by
    intro t hmn hm1 ht hh1 hh2
    have hD : 0 < y.natAbs := by
      rcases hm.2 with h | h
      · omega
      · exact Nat.lt_of_lt_of_le (B9_pos _) h
    intro k
    induction k with
    | zero =>
      intro σ1 f q M N S hk k1 k2 k3 k4 k5 k6 k7 k8 k9 hval hlt hM
      have hdm := div_mod_of hval (by rw [Nat.pow_zero, Nat.mul_one] at hlt; exact hlt)
      have hfn : f n = 0 := val_small (m := n) (n := n + 1) (Nat.lt_of_lt_of_le hlt (by rw [Nat.pow_zero, Nat.mul_one]; exact Nat.le_of_lt (Nat.lt_of_lt_of_le hm.1 (B9_mono hmn)))) (Nat.le_refl _) (by omega)
      have hvn : val f (n + 1) = val f n := val_cut (by omega) (fun j h1 h2 => by rw [show j = n by omega]; exact hfn)

      refine x_iload (q := 88) dX2_split_86 rfl rfl ?_
      refine xi_if_lt (q := 91) 165 dX2_split_88 (by decide) rfl rfl (by omega) (by omega) (fun hc88 => ?_) (fun hc88 => absurd hc88 (by omega))
      refine x_aload_n (q := 166) dX2_split_165 rfl rfl ?_
      refine x_aload_n (q := 167) dX2_split_166 rfl rfl ?_
      refine c_get (q := 170) (k := b) (f := 1) hM (cE_big _ _ hb) xclX2 fwX2_13 (by decide) dX2_split_167 rfl rfl ?_
      refine x_topi (y := nI n) (by exact k3) ?_
      refine c_call (q := 173) (k := b) (As := [_]) hM (cE_big _ _ hb) imX2_trim ivX2_trim ilX2_trim mwX2_55 xciX2 dX2_split_170 rfl rfl rfl (Nat.le_of_ble_eq_true rfl) ?_
      refine (b_trim G l ad F R (d + 2) σ1 b n hb (x.tmod y) f (by omega) (fun j hj => (k7 j (by omega)).1) (fun j hj => (k7 j (by omega)).2) (by rw [Int.natAbs_tmod, hdm.2, hvn]) (fun h => by rw [k2]; exact tmod_sg h)).mono (fun x9 σ5 hp => ?_)
      obtain ⟨rfl, p1, p2, p3⟩ := hp
      intro M N S hM
      show xX G l _ (d + 3) _ _ _ _ M N S
      have eb : σ5 e = σ1 e := p1 e (by simp at y1; simp; omega)
      have eb2 : σ5 (e + 100) = σ1 (e + 100) := p1 _ (by simp at y2; simp; omega)
      refine x_aload_n (q := 174) dX2_split_173 rfl rfl ?_
      refine x_iload_n (q := 175) dX2_split_174 rfl rfl ?_
      refine xn_iconst (q := 176) 1 dX2_split_175 rfl (by decide) ?_
      refine xn_iadd (q := 177) dX2_split_176 rfl ?_
      refine c_call (q := 180) (k := e) (As := [_]) hM (cE_big _ _ he) imX2_trim ivX2_trim ilX2_trim mwX2_55 xciX2 dX2_split_177 rfl rfl rfl (Nat.le_of_ble_eq_true rfl) ?_
      refine (b_trim G l ad F R (d + 2) σ5 e (n - m + 1) he (x.tdiv y) q (by rw [eb]; exact k6) (fun j hj => by rw [eb2]; exact (k8 j (Nat.zero_le _) hj).1) (fun j hj => (k8 j (Nat.zero_le _) hj).2) (by rw [Int.natAbs_tdiv]; exact hdm.1) (fun h => by rw [eb, k5]; exact tdiv_sg h)).mono (fun x9 σ6 hp => ?_)
      obtain ⟨rfl, r1, r2, r3⟩ := hp
      intro M N S hM
      show xX G l _ (d + 3) _ _ _ _ M N S
      exact x_vret rfl dX2_split_180 (c_ret hM ⟨rfl, k1.trans ((kp_be p1.b).trans (kp_eb r1.b)), r1.bg (by simp at y3; simp; omega) (by simp at y4; simp; omega) p3, r3⟩)

    | succ k ih =>
      intro σ1 f q M N S hk k1 k2 k3 k4 k5 k6 k7 k8 k9 hval hlt hM
      have hll := hM.2.2.2.1 b hb
      have hle := hM.2.2.2.1 e he
      have hK : 0 < y.natAbs * B9 ^ k := Nat.mul_pos hD (B9_pos _)
      have hltK : val f (n + 1) < y.natAbs * B9 ^ k * 1000000000 := by rw [B9_succ, ← Nat.mul_assoc] at hlt; exact hlt
      have hkm : y.natAbs * B9 ^ (k + 1) ≤ B9 ^ (k + m + 1) := by
        rw [show k + m + 1 = m + (k + 1) by omega, Nat.pow_add B9 m (k + 1)]
        exact Nat.mul_le_mul_right _ (Nat.le_of_lt hm.1)
      have eI : iI (((k + 1 : Nat) : Int) - 1) = nI k := by rw [nI_i]; congr 1; omega
      rw [eI]
      have fin : ∀ (o : Nat) (σ2 : cZ) (f2 : Nat → Nat) (M : xM) (N S : Nat), kp [b + 100] σ1 σ2 → (∀ j, j ≤ n → (σ2 (b + 100)).1 j = nI (f2 j) ∧ f2 j < B9) → (∀ j, k + m < j → j ≤ n → f2 j = 0) → o * (y.natAbs * B9 ^ k) + val f2 (n + 1) = val f (n + 1) → val f2 (n + 1) < y.natAbs * B9 ^ k → cA G ad F R σ2 M N S → xX G l YX2_split (d + 3) (cQ G ad F R (fun r σ' => r = none ∧ kp [b, b + 100, e, e + 100] σ σ' ∧ Bg σ' b (x.tmod y) ∧ Bg σ' e (x.tdiv y))) 149 [(0, .ref (ad b)), (1, .ref (ad c)), (2, .ref (ad e)), (3, .int (nI (n - m))), (4, .long (lN (10 ^ t))), (6, .long (lN (y.natAbs * 10 ^ t / B9 ^ (m - 1)))), (8, .int (nI k)), (9, .long (lN o))] [] M N S := by
        intro o σ2 f2 M N S j1 j2 j3 hsum hsm hM
        have ee2 : σ2 e = σ1 e := j1 e (by simp at y1; simp; omega)
        have el2 : σ2 (e + 100) = σ1 (e + 100) := j1 _ (by simp at y2; simp; omega)
        have eb2 : σ2 b = σ1 b := j1 b (by simp)
        have ho : o < 1000000000 := by
          have h9 : o * (y.natAbs * B9 ^ k) < 1000000000 * (y.natAbs * B9 ^ k) := by rw [Nat.mul_comm 1000000000]; omega
          exact Nat.lt_of_mul_lt_mul_right h9
        have e9 : nI k + -1 = iI ((k : Int) - 1) := by rw [nI_i, show iI (k : Int) + -1 = iI (k : Int) + iI (-1) from rfl, ← Int32.ofInt_add]; congr 1

        refine x_aload_n (q := 150) dX2_split_149 rfl rfl ?_
        refine c_get (q := 153) (k := e) (f := 2) hM (cE_big _ _ he) xclX2 fwX2_9 (by decide) dX2_split_150 rfl rfl ?_
        refine x_iload (q := 155) dX2_split_153 rfl rfl ?_
        refine x_lload (q := 157) dX2_split_155 rfl rfl ?_
        refine xn_l2i (q := 158) dX2_split_157 rfl ?_
        refine c_limbst (q := 159) hM he dX2_split_158 rfl (by rw [ee2]; omega) (fun M σ158 a158 e158 hM => ?_)
        refine x_iinc (q := 162) (ls' := [(0, _), (1, _), (2, _), (3, _), (4, _), (6, _), (8, _), (9, _)]) [1, 2, 3, 4, 5, 6, 0, 7] (-1) dX2_split_159 rfl rfl (by decide) (by decide) rfl ?_
        refine x_goto 86 dX2_split_162 (by decide) ?_
        refine x_ls (ls' := [(0, _), (1, _), (2, _), (3, _), (4, _), (6, _), (8, _)]) [0, 1, 2, 3, 4, 5, 6] rfl ?_
        rw [e9]
        have a9 : b ∉ [e + 100] ∧ b + 100 ∉ [e + 100] ∧ e ∉ [e + 100] := ⟨fun h => by simp at h y3; omega, fun h => by simp at h y4; omega, by simp⟩
        refine ih σ158 f2 (mu q k o) M N S (by omega) (k1.trans ((kp_be j1.l).trans (kp_eb a158.l))) (by rw [a158 b a9.1, eb2]; exact k2) (by rw [a158 b a9.1, eb2]; exact k3) (by rw [a158 b a9.1, eb2]; exact k4) (by rw [a158 e a9.2.2, ee2]; exact k5) (by rw [a158 e a9.2.2, ee2]; exact k6) (fun j hj => by rw [a158 _ a9.2.1]; exact j2 j hj) (fun j h1 h2 => ?_) (fun j hj => by rw [mu_n (by omega)]; exact k9 j (by omega)) ?_ hsm hM
        · rw [e158]
          by_cases ej : j = k
          · rw [ej, mu_s]; simp only [upd, if_true]; exact ⟨trivial, ho⟩
          · rw [mu_n ej, el2]; simp only [upd, if_neg ej]; exact k8 j (by omega) h2
        · rw [val_set (by omega) (k9 k (by omega)), Nat.add_mul, ← hval, ← hsum]
          have : o * B9 ^ k * y.natAbs = o * (y.natAbs * B9 ^ k) := by rw [Nat.mul_assoc, Nat.mul_comm (B9 ^ k)]
          omega

      have inner : ∀ (u i o : Nat) (σ2 : cZ) (f2 : Nat → Nat) (M : xM) (N S : Nat), i + u = 8 → kp [b + 100] σ1 σ2 → (∀ j, j ≤ n → (σ2 (b + 100)).1 j = nI (f2 j) ∧ f2 j < B9) → (∀ j, k + m < j → j ≤ n → f2 j = 0) → o * (y.natAbs * B9 ^ k) + val f2 (n + 1) = val f (n + 1) → (1 ≤ i → val f2 (n + 1) / (y.natAbs * B9 ^ k) ≤ 10) → (2 ≤ i → val f2 (n + 1) / (y.natAbs * B9 ^ k) ≤ 1) → (3 ≤ i → val f2 (n + 1) / (y.natAbs * B9 ^ k) = 0) → cA G ad F R σ2 M N S → xX G l YX2_split (d + 3) (cQ G ad F R (fun r σ' => r = none ∧ kp [b, b + 100, e, e + 100] σ σ' ∧ Bg σ' b (x.tmod y) ∧ Bg σ' e (x.tdiv y))) 97 [(0, .ref (ad b)), (1, .ref (ad c)), (2, .ref (ad e)), (3, .int (nI (n - m))), (4, .long (lN (10 ^ t))), (6, .long (lN (y.natAbs * 10 ^ t / B9 ^ (m - 1)))), (8, .int (nI k)), (9, .long (lN o)), (11, .int (nI i))] [] M N S := by
        intro u
        induction u with
        | zero =>
          intro i o σ2 f2 M N S hi j1 j2 j3 hsum b1 b2 b3 hM

          refine x_iload (q := 99) dX2_split_97 rfl rfl ?_
          refine xn_bipush (q := 101) 8 dX2_split_99 rfl (by decide) ?_
          refine xn_icmp_ge (q := 104) 149 dX2_split_101 (by decide) rfl (by omega) (by omega) (fun hc101 => ?_) (fun hc101 => absurd hc101 (by omega))
          refine x_ls (ls' := [(0, _), (1, _), (2, _), (3, _), (4, _), (6, _), (8, _), (9, _)]) [0, 1, 2, 3, 4, 5, 6, 7] rfl ?_
          exact fin o σ2 f2 M N S j1 j2 j3 hsum ((Nat.div_eq_zero_iff.mp (b3 (by omega))).resolve_left (by omega)) hM

        | succ u ihu =>
          intro i o σ2 f2 M N S hi j1 j2 j3 hsum b1 b2 b3 hM
          have eb2 : σ2 b = σ1 b := j1 b (by simp)
          have hyc : Bg σ2 c y := (k1.trans (kp_be j1.l)).bg ck ck2 hy'
          have hcut : val f2 (n + 1) = val f2 (k + m + 1) := val_cut (by omega) (fun j h1 h2 => j3 j (by omega) (by omega))
          have hQ : val f2 (n + 1) < y.natAbs * B9 ^ k * 1000000000 := by omega
          have hlim : ∀ j, j ≤ k + m → (σ2 (b + 100)).1 j = nI (f2 j) ∧ f2 j < B9 := fun j hj => j2 j (by omega)

          refine x_iload (q := 99) dX2_split_97 rfl rfl ?_
          refine xn_bipush (q := 101) 8 dX2_split_99 rfl (by decide) ?_
          refine xn_icmp_ge (q := 104) 149 dX2_split_101 (by decide) rfl (by omega) (by omega) (fun hc101 => absurd hc101 (by omega)) (fun hc101 => ?_)
          refine x_aload_n (q := 105) dX2_split_104 rfl rfl ?_
          refine x_aload_n (q := 106) dX2_split_105 rfl rfl ?_
          refine x_iload (q := 108) dX2_split_106 rfl rfl ?_
          refine x_lload (q := 110) dX2_split_108 rfl rfl ?_
          refine x_lload (q := 112) dX2_split_110 rfl rfl ?_
          refine c_call (q := 115) (k := b) (As := [_, _, _, _]) hM (cE_big _ _ hb) imX2_guess ivX2_guess ilX2_guess mwX2_66 xciX2 dX2_split_112 rfl rfl rfl (Nat.le_of_ble_eq_true rfl) ?_
          refine (b_guess G l ad F R (d + 1) σ2 b c hb hc y hyc m k t hm hm1 f2 (by rw [eb2]; omega) hlim ht hh1 hh2 (by rw [← hcut]; exact hQ)).mono (fun x9 σ9 hp => ?_)
          obtain ⟨⟨g, rfl, gk⟩, e9'⟩ := hp
          intro M N S hM
          rw [e9'] at hM; clear e9' σ9
          rw [← hcut] at gk
          have hgl : g < 1000000000 := Nat.lt_of_le_of_lt gk.1 ((Nat.div_lt_iff_lt_mul hK).mpr (by rw [Nat.mul_comm]; exact hQ))
          have hgle : g * y.natAbs * B9 ^ k ≤ val f2 (k + m + 1) := by rw [← hcut, Nat.mul_assoc]; exact (Nat.le_div_iff_mul_le hK).mp gk.1
          show xX G l _ (d + 3) _ _ _ _ M N S
          refine x_lstore (q := 117) (ls' := [(0, _), (1, _), (2, _), (3, _), (4, _), (6, _), (8, _), (9, _), (11, _), (12, _)]) [1, 2, 3, 4, 5, 6, 7, 8, 9, 0] dX2_split_115 rfl (by decide) rfl ?_
          refine x_lload (q := 119) dX2_split_117 rfl rfl ?_
          refine xn_lconst (q := 120) 0 dX2_split_119 rfl (by decide) ?_
          refine xn_lcmp_ne (q1 := 121) (q := 124) 127 dX2_split_120 rfl dX2_split_121 (by decide) rfl (by omega) (by omega) (fun hc120 => ?_) (fun hc120 => ?_)
          · refine x_aload_n (q := 128) dX2_split_127 rfl rfl ?_
            refine x_aload_n (q := 129) dX2_split_128 rfl rfl ?_
            refine x_lload (q := 131) dX2_split_129 rfl rfl ?_
            refine x_iload (q := 133) dX2_split_131 rfl rfl ?_
            refine c_call (q := 136) (k := b) (As := [_, _, _]) hM (cE_big _ _ hb) imX2_takeAway ivX2_takeAway ilX2_takeAway mwX2_70 xciX2 dX2_split_133 rfl rfl rfl (Nat.le_of_ble_eq_true rfl) ?_
            refine (b_takeAway G l ad F R (d + 1) σ2 b c hb hc hbc y hyc m k g hm f2 (by rw [eb2]; omega) hlim (by omega) hgle).mono (fun x9 σ5 hp => ?_)
            obtain ⟨rfl, p1, p2, g2, p4, p5⟩ := hp
            intro M N S hM
            show xX G l _ (d + 3) _ _ _ _ M N S
            refine x_lload (q := 138) dX2_split_136 rfl rfl ?_
            refine x_lload (q := 140) dX2_split_138 rfl rfl ?_
            refine xn_ladd (q := 141) dX2_split_140 rfl ?_
            refine x_lstore (q := 143) (ls' := [(0, _), (1, _), (2, _), (3, _), (4, _), (6, _), (8, _), (9, _), (11, _), (12, _)]) [1, 2, 3, 4, 5, 6, 7, 0, 8, 9] dX2_split_141 rfl (by decide) rfl ?_
            refine xn_iinc (q := 146) (ls' := [(0, _), (1, _), (2, _), (3, _), (4, _), (6, _), (8, _), (9, _), (11, _), (12, _)]) [1, 2, 3, 4, 5, 6, 7, 8, 0, 9] 1 dX2_split_143 rfl rfl (by decide) (by decide) rfl ?_
            refine x_goto 97 dX2_split_146 (by decide) ?_
            refine x_ls (ls' := [(0, _), (1, _), (2, _), (3, _), (4, _), (6, _), (8, _), (9, _), (11, _)]) [0, 1, 2, 3, 4, 5, 6, 7, 8] rfl ?_
            have hcut3 : val (fun j => if j ≤ k + m then g2 j else f2 j) (n + 1) = val g2 (k + m + 1) := by
              rw [val_cut (m := k + m + 1) (by omega) (fun j h1 h2 => by show (if j ≤ k + m then g2 j else f2 j) = 0; rw [if_neg (by omega)]; exact j3 j (by omega) (by omega))]
              exact val_congr (fun j hj => if_pos (by omega))
            have hq3 : val f2 (n + 1) / (y.natAbs * B9 ^ k) = val g2 (k + m + 1) / (y.natAbs * B9 ^ k) + g := by
              rw [hcut, ← p5, Nat.mul_assoc g, Nat.add_mul_div_right _ _ hK]
            obtain ⟨v1, v2, v3, v4, v5⟩ := gk
            refine ihu (i + 1) (o + g) σ5 (fun j => if j ≤ k + m then g2 j else f2 j) M N S (by omega) (j1.trans p1) (fun j hj => ?_) (fun j h1 h2 => by show (if j ≤ k + m then g2 j else f2 j) = 0; rw [if_neg (by omega)]; exact j3 j h1 h2) ?_ (fun _ => by rw [hcut3]; omega) (fun h => by rw [hcut3]; have := b1 (by omega); omega) (fun h => by rw [hcut3]; have := b2 (by omega); omega) hM
            · show _ = nI (if j ≤ k + m then g2 j else f2 j) ∧ (if j ≤ k + m then g2 j else f2 j) < B9
              by_cases hj2 : j ≤ k + m
              · rw [if_pos hj2]; exact p4 j hj2
              · rw [if_neg hj2, p2 j (by omega)]; exact j2 j hj
            · rw [hcut3, ← hsum, hcut, ← p5, Nat.add_mul, Nat.mul_assoc g]
              omega
          · refine x_goto 149 dX2_split_124 (by decide) ?_
            refine x_ls (ls' := [(0, _), (1, _), (2, _), (3, _), (4, _), (6, _), (8, _), (9, _)]) [0, 1, 2, 3, 4, 5, 6, 7] rfl ?_
            exact fin o σ2 f2 M N S j1 j2 j3 hsum ((Nat.div_eq_zero_iff.mp (gk.2.1 hc120)).resolve_left (by omega)) hM

      refine x_iload (q := 88) dX2_split_86 rfl rfl ?_
      refine xn_if_lt (q := 91) 165 dX2_split_88 (by decide) rfl (by omega) (fun hc88 => absurd hc88 (by omega)) (fun hc88 => ?_)
      refine xn_lconst (q := 92) 0 dX2_split_91 rfl (by decide) ?_
      refine x_lstore (q := 94) (ls' := [(0, _), (1, _), (2, _), (3, _), (4, _), (6, _), (8, _), (9, _)]) [1, 2, 3, 4, 5, 6, 7, 0] dX2_split_92 rfl (by decide) rfl ?_
      refine xn_iconst (q := 95) 0 dX2_split_94 rfl (by decide) ?_
      refine x_istore (q := 97) (ls' := [(0, _), (1, _), (2, _), (3, _), (4, _), (6, _), (8, _), (9, _), (11, _)]) [1, 2, 3, 4, 5, 6, 7, 8, 0] dX2_split_95 rfl (by decide) rfl ?_
      exact inner 8 0 0 σ1 f M N S (by decide) kp.rfl' k7 (fun j h1 h2 => val_small (m := k + m + 1) (n := n + 1) (Nat.lt_of_lt_of_le hlt hkm) (by omega) (by omega)) (by rw [Nat.zero_mul, Nat.zero_add]) (fun h => by omega) (fun h => by omega) (fun h => by omega) hM

  have s45 : ∀ (σ1 : cZ) (M : xM) (N S : Nat), m ≤ n → 1 ≤ m → kp [e] σ σ1 → (σ1 e).2 = (σ e).2 → (σ1 e).1 1 = nI 0 → (σ1 e).1 0 = sg x * sg y → cA G ad F R σ1 M N S → xX G l YX2_split (d + 3) (cQ G ad F R (fun r σ' => r = none ∧ kp [b, b + 100, e, e + 100] σ σ' ∧ Bg σ' b (x.tmod y) ∧ Bg σ' e (x.tdiv y))) 45 [(0, .ref (ad b)), (1, .ref (ad c)), (2, .ref (ad e)), (3, .int (nI (n - m)))] [] M N S := by
    intro σ1 M N S hmn hm1 k1 k2 k3 k4 hM
    have eb : σ1 b = σ b := k1 b (by simp; omega)
    have eb2 : σ1 (b + 100) = σ (b + 100) := k1 _ (by have := hb.1; have := he.2; simp; omega)
    have hbe2 : b ∉ [e, e + 100] ∧ b + 100 ∉ [e, e + 100] := ⟨y3, y4⟩

    refine x_aload_n (q := 46) dX2_split_45 rfl rfl ?_
    refine x_iload_n (q := 47) dX2_split_46 rfl rfl ?_
    refine xn_iconst (q := 48) 1 dX2_split_47 rfl (by decide) ?_
    refine xn_iadd (q := 49) dX2_split_48 rfl ?_
    refine c_call (q := 52) (k := e) (As := [_]) hM (cE_big _ _ he) imX2_makeRoom ivX2_makeRoom ilX2_makeRoom mwX2_26 xciX2 dX2_split_49 rfl rfl rfl (Nat.le_of_ble_eq_true rfl) ?_
    refine (b_makeRoom G l ad F R d σ1 e 0 (n - m + 1) he (by omega) (Nat.zero_le _) k3).mono (fun x9 σ49 hp => ?_)
    obtain ⟨rfl, p1, p2, p4, p5, p6, p7⟩ := hp
    intro M N S hM
    show xX G l _ (d + 3) _ _ _ _ M N S
    refine x_aload_n (q := 53) dX2_split_52 rfl rfl ?_
    refine x_aload_n (q := 54) dX2_split_53 rfl rfl ?_
    refine c_get (q := 57) (k := b) (f := 1) hM (cE_big _ _ hb) xclX2 fwX2_13 (by decide) dX2_split_54 rfl rfl ?_
    refine x_topi (y := nI n) (by rw [p1 b hbe2.1, eb]; exact h1) ?_
    refine xn_iconst (q := 58) 1 dX2_split_57 rfl (by decide) ?_
    refine xn_iadd (q := 59) dX2_split_58 rfl ?_
    refine c_call (q := 62) (k := b) (As := [_]) hM (cE_big _ _ hb) imX2_makeRoom ivX2_makeRoom ilX2_makeRoom mwX2_26 xciX2 dX2_split_59 rfl rfl rfl (Nat.le_of_ble_eq_true rfl) ?_
    refine (b_makeRoom G l ad F R d σ49 b n (n + 1) hb (by omega) (by rw [p1 b hbe2.1, eb]; exact hlen) (by rw [p1 b hbe2.1, eb]; exact h1)).mono (fun x9 σ59 hp => ?_)
    obtain ⟨rfl, r1, r2, r4, r5, r6, r7⟩ := hp
    intro M N S hM
    show xX G l _ (d + 3) _ _ _ _ M N S
    have kc : kp [b, b + 100, e, e + 100] σ σ59 := (kp_eb k1.b).trans ((kp_eb p1).trans (kp_be r1))
    have hyc : Bg σ59 c y := kc.bg ck ck2 hy'
    refine x_aload_n (q := 63) dX2_split_62 rfl rfl ?_
    refine c_call (q := 66) (k := c) (As := []) hM (cE_big _ _ hc) imX2_tensOfTop ivX2_tensOfTop ilX2_tensOfTop mwX2_58 xciX2 dX2_split_63 rfl rfl rfl (Nat.le_of_ble_eq_true rfl) ?_
    refine (b_tensOfTop G l ad F R (d + 1) σ59 c m hc y hyc hm hm1).mono (fun x9 σ9 hp => ?_)
    obtain ⟨t, ht8, t1, t2, rfl, e9'⟩ := hp
    intro M N S hM
    rw [e9'] at hM; clear e9' σ9
    show xX G l _ (d + 3) _ _ _ _ M N S
    refine x_lstore (q := 68) (ls' := [(0, _), (1, _), (2, _), (3, _), (4, _)]) [1, 2, 3, 4, 0] dX2_split_66 rfl (by decide) rfl ?_
    refine x_aload_n (q := 69) dX2_split_68 rfl rfl ?_
    refine x_aload_n (q := 70) dX2_split_69 rfl rfl ?_
    refine c_get (q := 73) (k := c) (f := 1) hM (cE_big _ _ hc) xclX2 fwX2_13 (by decide) dX2_split_70 rfl rfl ?_
    refine x_topi (y := nI m) (by rw [kc c ck]; exact g1) ?_
    refine xn_iconst (q := 74) 1 dX2_split_73 rfl (by decide) ?_
    refine xn_isub (q := 75) dX2_split_74 rfl (by omega) ?_
    refine xn_lconst (q := 76) 0 dX2_split_75 rfl (by decide) ?_
    refine x_lload (q := 78) dX2_split_76 rfl rfl ?_
    refine c_call (q := 81) (k := c) (As := [_, _, _]) hM (cE_big _ _ hc) imX2_front ivX2_front ilX2_front mwX2_62 xciX2 dX2_split_78 rfl rfl rfl (Nat.le_of_ble_eq_true rfl) ?_
    have hlc := hM.2.2.2.1 c hc
    rw [kc c ck] at hlc
    have hfd : frontV (dg y.natAbs) (m - 1) 0 t = y.natAbs * 10 ^ t / B9 ^ (m - 1) := by rw [frontV_eq (fun j _ => dg_lt _ _) ht8 (by omega), show m - 1 + 1 = m by omega, Nat.zero_mul, Nat.add_zero, val_dg hm.1]
    refine (b_front G l ad F R (d + 2) σ59 c hc (dg y.natAbs) (m - 1) 0 t (by rw [kc c ck]; omega) ht8 (by rw [Nat.zero_mul]; decide) (fun j hj => ⟨by rw [kc _ ck2]; exact gdg j (by omega), dg_lt _ _⟩)).mono (fun x9 σ9' hp => ?_)
    obtain ⟨rfl, e9⟩ := hp
    intro M N S hM
    rw [e9] at hM; clear e9 σ9'
    rw [hfd]
    show xX G l _ (d + 3) _ _ _ _ M N S
    refine x_lstore (q := 83) (ls' := [(0, _), (1, _), (2, _), (3, _), (4, _), (6, _)]) [1, 2, 3, 4, 5, 0] dX2_split_81 rfl (by decide) rfl ?_
    refine x_iload_n (q := 84) dX2_split_83 rfl rfl ?_
    refine x_istore (q := 86) (ls' := [(0, _), (1, _), (2, _), (3, _), (4, _), (6, _), (8, _)]) [1, 2, 3, 4, 5, 6, 0] dX2_split_84 rfl (by decide) rfl ?_
    have hDl : y.natAbs < B9 ^ m := hm.1
    have hDg : B9 ^ (m - 1) ≤ y.natAbs := hm.2.resolve_left (by omega)
    have htopv : dg y.natAbs (m - 1) = y.natAbs / B9 ^ (m - 1) := by
      unfold dg; rw [Nat.mod_eq_of_lt]; rw [Nat.div_lt_iff_lt_mul (B9_pos _), Nat.mul_comm, ← B9_succ, show m - 1 + 1 = m by omega]; exact hDl
    have hb1 : dg y.natAbs (m - 1) * 10 ^ t ≤ y.natAbs * 10 ^ t / B9 ^ (m - 1) := by
      rw [htopv, Nat.le_div_iff_mul_le (B9_pos _), Nat.mul_right_comm]; exact Nat.mul_le_mul_right _ (Nat.div_mul_le_self _ _)
    have hb2 : y.natAbs * 10 ^ t / B9 ^ (m - 1) < dg y.natAbs (m - 1) * 10 ^ t + 10 ^ t := by
      rw [htopv, Nat.div_lt_iff_lt_mul (B9_pos _)]
      have := Nat.mul_lt_mul_of_pos_right (Nat.lt_mul_div_succ y.natAbs (B9_pos (m - 1))) (show 0 < 10 ^ t from Nat.pow_pos (by decide))
      rw [Nat.mul_add, Nat.mul_one, Nat.add_mul] at this
      rw [Nat.add_mul, Nat.mul_right_comm, Nat.mul_comm (y.natAbs / B9 ^ (m - 1)), Nat.mul_comm (10 ^ t) (B9 ^ (m - 1))]
      exact this
    have hb3 : y.natAbs * 10 ^ t / B9 ^ (m - 1) < 1000000000 := by
      have q1 : (dg y.natAbs (m - 1) + 1) * 10 ^ t ≤ 1000000000 := by
        have hq := ten_dvd ht8
        have q2 : dg y.natAbs (m - 1) < 1000000000 / 10 ^ t := Nat.lt_of_mul_lt_mul_right (a := 10 ^ t) (by rw [hq.2]; exact t2)
        have q3 := Nat.mul_le_mul_right (10 ^ t) (show dg y.natAbs (m - 1) + 1 ≤ 1000000000 / 10 ^ t from q2)
        rw [hq.2] at q3; exact q3
      rw [Nat.add_mul, Nat.one_mul] at q1
      exact Nat.lt_of_lt_of_le hb2 q1
    refine x_ls (ls' := [(0, _), (1, _), (2, _), (3, _), (4, _), (6, _), (8, _)]) [0, 1, 2, 3, 4, 5, 6] rfl ?_
    have eI : nI (n - m) = iI (((n - m + 1 : Nat) : Int) - 1) := by rw [nI_i]; congr 1; omega
    have hgo := loop t hmn hm1 ht8 (Nat.le_trans t1 hb1) hb3 (n - m + 1) σ59 (dg x.natAbs) (fun _ => 0) M N S (Nat.le_refl _) ((kp_eb k1.b).trans ((kp_eb p1).trans (kp_be r1))) (by rw [r2, p1 b hbe2.1, eb]; exact h0) (by rw [r2, p1 b hbe2.1, eb]; exact h1) r4 (by rw [r1 e y1, p2]; exact k4) (by rw [r1 e y1]; exact p4) (fun j hj => ?_) (fun j h1 h2 => absurd h2 (by omega)) (fun _ _ => rfl) (by rw [valz, Nat.zero_mul, Nat.zero_add, val_bd hn (by omega)]) (by rw [val_bd hn (by omega)]; exact Nat.lt_of_lt_of_le hn.1 (by rw [show n = m - 1 + (n - m + 1) by omega, Nat.pow_add]; rw [show m - 1 + (n - m + 1) - m + 1 = n - m + 1 by omega]; exact Nat.mul_le_mul_right _ hDg)) hM
    · rw [← eI] at hgo; exact hgo
    · refine ⟨?_, dg_lt _ _⟩
      by_cases hj2 : j < n
      · rw [r6 j hj2, p1 _ hbe2.2, eb2]; exact hdg j hj2
      · rw [r7 j (by omega) (by omega), dg_hi (Nat.lt_of_lt_of_le hn.1 (B9_mono (by omega)))]

  refine x_aload_n (q := 1) dX2_split_0 rfl rfl ?_
  refine c_get (q := 4) (k := b) (f := 1) hM (cE_big _ _ hb) xclX2 fwX2_13 (by decide) dX2_split_1 rfl rfl ?_
  refine x_topi (y := nI n) (by exact h1) ?_
  refine x_aload_n (q := 5) dX2_split_4 rfl rfl ?_
  refine c_get (q := 8) (k := c) (f := 1) hM (cE_big _ _ hc) xclX2 fwX2_13 (by decide) dX2_split_5 rfl rfl ?_
  refine x_topi (y := nI m) (by exact g1) ?_
  refine xi_isub (q := 9) dX2_split_8 rfl (nI_i _) (nI_i _) ?_
  refine x_istore_n (q := 10) (ls' := [(0, _), (1, _), (2, _), (3, _)]) [1, 2, 3, 0] dX2_split_9 rfl (by decide) rfl ?_
  refine x_aload_n (q := 11) dX2_split_10 rfl rfl ?_
  refine xn_iconst (q := 12) 0 dX2_split_11 rfl (by decide) ?_
  refine c_puti (q := 15) (k := e) (f := 1) hM (cE_big _ _ he) (by rw [cE_big _ _ he, mu_s]; rfl) xclX2 fwX2_13 (by decide) rfl rfl (Nat.le_of_ble_eq_true rfl) dX2_split_12 rfl rfl rfl (fun M σ12 a12 e12 b12 hM => ?_)
  refine x_aload_n (q := 16) dX2_split_15 rfl rfl ?_
  refine x_aload_n (q := 17) dX2_split_16 rfl rfl ?_
  refine c_get (q := 20) (k := b) (f := 0) hM (cE_big _ _ hb) xclX2 fwX2_23 (by decide) dX2_split_17 rfl rfl ?_
  refine x_topi (y := sg x) (by rw [a12 b (by simp; omega)]; exact h0) ?_
  refine x_aload_n (q := 21) dX2_split_20 rfl rfl ?_
  refine c_get (q := 24) (k := c) (f := 0) hM (cE_big _ _ hc) xclX2 fwX2_23 (by decide) dX2_split_21 rfl rfl ?_
  refine x_topi (y := sg y) (by rw [a12 c (by simp; omega)]; exact g0) ?_
  refine x_imul (q := 25) dX2_split_24 rfl ?_
  refine c_puti (q := 28) (k := e) (f := 0) hM (cE_big _ _ he) (by rw [cE_big _ _ he, mu_s]; rfl) xclX2 fwX2_23 (by decide) rfl rfl (Nat.le_of_ble_eq_true rfl) dX2_split_25 rfl rfl rfl (fun M σ25 a25 e25 b25 hM => ?_)
  refine x_aload_n (q := 29) dX2_split_28 rfl rfl ?_
  refine c_get (q := 32) (k := c) (f := 0) hM (cE_big _ _ hc) xclX2 fwX2_23 (by decide) dX2_split_29 rfl rfl ?_
  refine x_topi (y := iI y.sign) (by rw [a25 c (by simp; omega), a12 c (by simp; omega), g0]; exact sg_iI y) ?_
  refine xi_if_eq (q := 35) 39 dX2_split_32 (by decide) rfl rfl (by omega) (by omega) (fun hc32 => ?_) (fun hc32 => ?_)
  · refine x_aload_n (q := 40) dX2_split_39 rfl rfl ?_
    refine xn_iconst (q := 41) 0 dX2_split_40 rfl (by decide) ?_
    refine c_puti (q := 44) (k := e) (f := 0) hM (cE_big _ _ he) (by rw [cE_big _ _ he, mu_s]; rfl) xclX2 fwX2_23 (by decide) rfl rfl (Nat.le_of_ble_eq_true rfl) dX2_split_41 rfl rfl rfl (fun M σ41 a41 e41 b41 hM => ?_)
    have kz : kp [e] σ σ41 := a12.trans (a25.trans a41)
    have he0 : Bg σ41 e 0 := ⟨0, nl_zero, Nat.zero_le _, by rw [e41, mu_s]; rfl, by rw [e41, mu_n (by decide), e25, mu_n (by decide), e12, mu_s], fun j hj => absurd hj (Nat.not_lt_zero j)⟩
    have hbx : Bg σ41 b x := kz.bg (by simp; omega) (by have := hb.1; have := he.2; simp; omega) hx'
    have hy0 : y = 0 := Int.sign_eq_zero_iff_zero.mp hc32
    exact x_vret rfl dX2_split_44 (c_ret hM ⟨rfl, kp_eb kz.b, by rw [hy0, Int.tmod_zero]; exact hbx, by rw [hy0, Int.tdiv_zero]; exact he0⟩)
  · refine x_iload_n (q := 36) dX2_split_35 rfl rfl ?_
    refine xi_if_ge (q := 39) 45 dX2_split_36 (by decide) rfl rfl (by omega) (by omega) (fun hc36 => ?_) (fun hc36 => ?_)
    · have hmn : m ≤ n := by omega
      have hm1 : 1 ≤ m := Nat.pos_of_ne_zero (fun h => hc32 (by rw [show y = 0 by have := (nl_zero_iff hm).mp h; omega]; rfl))
      rw [show iI ((n : Int) - (m : Int)) = nI (n - m) by rw [nI_i]; congr 1; omega]
      exact s45 σ25 M N S hmn hm1 (a12.trans a25) (b25.trans b12) (by rw [e25, mu_n (by decide), e12, mu_s]) (by rw [e25, mu_s]) hM
    · refine x_aload_n (q := 40) dX2_split_39 rfl rfl ?_
      refine xn_iconst (q := 41) 0 dX2_split_40 rfl (by decide) ?_
      refine c_puti (q := 44) (k := e) (f := 0) hM (cE_big _ _ he) (by rw [cE_big _ _ he, mu_s]; rfl) xclX2 fwX2_23 (by decide) rfl rfl (Nat.le_of_ble_eq_true rfl) dX2_split_41 rfl rfl rfl (fun M σ41 a41 e41 b41 hM => ?_)
      have kz : kp [e] σ σ41 := a12.trans (a25.trans a41)
      have he0 : Bg σ41 e 0 := ⟨0, nl_zero, Nat.zero_le _, by rw [e41, mu_s]; rfl, by rw [e41, mu_n (by decide), e25, mu_n (by decide), e12, mu_s], fun j hj => absurd hj (Nat.not_lt_zero j)⟩
      have hbx : Bg σ41 b x := kz.bg (by simp; omega) (by have := hb.1; have := he.2; simp; omega) hx'
      have hsm := tdiv_small (nl_lt hn hm (by omega))
      exact x_vret rfl dX2_split_44 (c_ret hM ⟨rfl, kp_eb kz.b, by rw [hsm.2]; exact hbx, by rw [hsm.1]; exact he0⟩)

end XA7
