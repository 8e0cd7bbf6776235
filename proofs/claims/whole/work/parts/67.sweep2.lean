section XC2
def clP (A : Nat → Nat → Int) (i j : Nat) : Int := A (max i j) (min i j)
def swN (fr : Nat → Bool) (k : Nat) (A : Nat → Nat → Int) (y : Int) (a b : Nat) : Int := if fr a = true ∧ fr b = true ∧ a ≠ k ∧ b ≠ k then (A a b * A k k - clP A a k * clP A b k).tdiv y else A a b
abbrev fS : Type := (Nat → Nat → Int) × Int × (Nat → Bool)
def swC (fr : Nat → Bool) (k : Nat) (s : fS) : fS := if fr k = true ∧ s.1 k k ≠ 0 then (m2 (swN fr k s.1 s.2.1) k k (-s.2.1), s.1 k k, mu s.2.2 k true) else s
/-- where the frame's numbers stand while a slot is swept -/
def swA (fr : Nat → Bool) (k : Nat) (A : Nat → Nat → Int) (y : Int) (i j a b : Nat) : Int := if a < i ∨ (a = i ∧ b < j) then swN fr k A y a b else A a b
theorem swA_k {fr : Nat → Bool} {k : Nat} {A : Nat → Nat → Int} {y : Int} {i j a b : Nat} (h : a = k ∨ b = k) : swA fr k A y i j a b = A a b := by
  unfold swA
  split
  · unfold swN
    rw [if_neg (fun z => by omega)]
  · rfl
theorem swA_step {fr : Nat → Bool} {k : Nat} {A : Nat → Nat → Int} {y : Int} {i j a b : Nat} (h : ¬ (a = i ∧ b = j)) : swA fr k A y i (j + 1) a b = swA fr k A y i j a b := by
  unfold swA
  by_cases e : a < i ∨ (a = i ∧ b < j)
  · rw [if_pos e, if_pos (by omega)]
  · rw [if_neg e, if_neg (by omega)]
theorem sw_t {i j : Nat} (hi : i < 10) (hj : j ≤ i) : 100 ≤ 100 + tri i j ∧ 100 + tri i j < 155 := by have := tri_lt hi hj; omega
theorem sw_mm {i k : Nat} (hi : i < 10) (hk : k < 10) : 100 ≤ 100 + tri (max i k) (min i k) ∧ 100 + tri (max i k) (min i k) < 155 := sw_t (by omega) (by omega)
theorem sw_kp {i j : Nat} {σ σ' : cZ} (hi : i < 10) (hj : j ≤ i) (h : kp [157, 257, 158, 258, 100 + tri i j, 100 + tri i j + 100] σ σ') : kp cK σ σ' ∧ σ' 30 = σ 30 ∧ σ' 29 = σ 29 ∧ (∀ a b, a < 10 → b ≤ a → ¬ (a = i ∧ b = j) → ∀ v, Bg σ (100 + tri a b) v → Bg σ' (100 + tri a b) v) ∧ (∀ v, Bg σ 155 v → Bg σ' 155 v) ∧ ∀ v, Bg σ 156 v → Bg σ' 156 v := by
  have ht := tri_lt hi hj
  refine ⟨h.mono (fun a ha => by rw [mem_cK]; simp at ha; omega), h 30 (by simp; omega), h 29 (by simp; omega), fun a b ha hb hne v hv => ?_, fun v hv => h.bg (by simp; omega) (by simp; omega) hv, fun v hv => h.bg (by simp; omega) (by simp; omega) hv⟩
  have h1 := tri_lt ha hb
  have hn : tri a b ≠ tri i j := fun z => hne (tri_inj ha hb hi hj z)
  exact h.bg (by simp; omega) (by simp; omega) hv

set_option maxRecDepth 100000 in
set_option maxHeartbeats 4000000 in
theorem b_sweep (G : xG) (l : Launch) (ad : Nat → Nat) (F : xM) (R : Nat × Nat) (d : Nat) (σ : cZ) (fr : Nat → Bool) (k : Nat) (hk : k < 10) (A : Nat → Nat → Int) (y : Int) (sw : Nat → Bool) (hC : Cll σ A) (hy : Bg σ 155 y) (hfr : ∀ s, s < 10 → (σ 29).1 s = bI (fr s)) (hsw : ∀ s, s < 10 → (σ 30).1 s = bI (sw s)) (hbA : ∀ i j, i < 10 → j ≤ i → (A i j).natAbs < B9 ^ 100) (hby : y.natAbs < B9 ^ 100) : cC G l ad F R YX4_sweep (d + 5) [.ref (ad 4), .int (nI k)] σ (fun r σ' => r = none ∧ kp cK σ σ' ∧ Cll σ' (swC fr k (A, y, sw)).1 ∧ Bg σ' 155 (swC fr k (A, y, sw)).2.1 ∧ ∀ s, s < 10 → (σ' 30).1 s = bI ((swC fr k (A, y, sw)).2.2 s)) := by
  have hkk := sw_t (i := k) (j := k) hk (Nat.le_refl _)
  have kb := tri_bg (i := k) (j := k) hk (Nat.le_refl _)
  have k155 : 100 + tri k k ≠ 155 := fun e => by have := hkk.2; omega
  have fin : ∀ (σ1 : cZ) (M : xM) (N S : Nat), fr k = true → A k k ≠ 0 → kp cK σ σ1 → σ1 30 = σ 30 → σ1 29 = σ 29 → Bg σ1 155 y → Bg σ1 156 (A k k) → (∀ a b, a < 10 → b ≤ a → Bg σ1 (100 + tri a b) (swN fr k A y a b)) → cA G ad F R σ1 M N S → xX G l YX4_sweep (d + 5) (cQ G ad F R (fun r σ' => r = none ∧ kp cK σ σ' ∧ Cll σ' (swC fr k (A, y, sw)).1 ∧ Bg σ' 155 (swC fr k (A, y, sw)).2.1 ∧ ∀ s, s < 10 → (σ' 30).1 s = bI ((swC fr k (A, y, sw)).2.2 s))) 115 [(0, .ref (ad 4)), (1, .int (nI k)), (2, .ref (ad (100 + tri k k)))] [] M N S := by
    intro σ1 M N S hf hnz k1 k2 k29 k3 k4 k5 hM
    have hs : swC fr k (A, y, sw) = (m2 (swN fr k A y) k k (-y), A k k, mu sw k true) := if_pos ⟨hf, hnz⟩

    refine x_aload_n (q := 116) dX4_sweep_115 rfl rfl ?_
    refine xn_lconst (q := 117) 0 dX4_sweep_116 rfl (by decide) ?_
    refine x_topl (y := iL 0) rfl ?_
    refine c_call (q := 120) (k := (100 + tri k k)) (As := [_]) hM (cE_big _ _ kb) imX2_takeLong ivX2_takeLong ilX2_takeLong mwX4_85 xciX2 dX4_sweep_117 rfl rfl rfl (Nat.le_of_ble_eq_true rfl) ?_
    refine (b_takeLong G l ad F R (d + 3) σ1 (100 + tri k k) kb 0 (by decide)).mono (fun x9 σ117 hp => ?_)
    obtain ⟨rfl, q1, q2⟩ := hp
    intro M N S hM
    show xX G l _ (d + 5) _ _ _ _ M N S
    refine x_aload_n (q := 121) dX4_sweep_120 rfl rfl ?_
    refine x_aload_n (q := 122) dX4_sweep_121 rfl rfl ?_
    refine c_get (q := 125) (k := 4) (f := 8) hM rfl xclX4 fwX4_41 (by decide) dX4_sweep_122 rfl rfl ?_
    refine x_ldc2 (q := 128) (-1) dX4_sweep_125 rfl cwX4_146 ?_
    refine x_topl (y := iL (-1)) (by decide) ?_
    refine c_call (q := 131) (k := (100 + tri k k)) (As := [_, _]) hM (cE_big _ _ kb) imX2_addTimes ivX2_addTimes ilX2_addTimes mwX4_93 xciX2 dX4_sweep_128 rfl rfl rfl (Nat.le_of_ble_eq_true rfl) ?_
    have y117 : Bg σ117 155 y := q1.bg (by simp; omega) (by simp; omega) k3
    refine (b_addTimes G l ad F R (d + 1) σ117 (100 + tri k k) 155 kb ⟨by decide, by decide⟩ k155 0 y (-1) q2 y117 (by decide) (by rw [Int.natAbs_zero]; exact B9_pos _) (B9up hby (by decide))).mono (fun x9 σ128 hp => ?_)
    obtain ⟨rfl, r1, r2⟩ := hp
    intro M N S hM
    show xX G l _ (d + 5) _ _ _ _ M N S
    rw [mul_m1, Int.zero_sub] at r2
    refine x_aload_n (q := 132) dX4_sweep_131 rfl rfl ?_
    refine c_get (q := 135) (k := 4) (f := 8) hM rfl xclX4 fwX4_41 (by decide) dX4_sweep_132 rfl rfl ?_
    refine x_aload_n (q := 136) dX4_sweep_135 rfl rfl ?_
    refine c_get (q := 139) (k := 4) (f := 9) hM rfl xclX4 fwX4_45 (by decide) dX4_sweep_136 rfl rfl ?_
    refine c_call (q := 142) (k := 155) (As := [_]) hM (cE_big _ _ ⟨by decide, by decide⟩) imX2_take ivX2_take ilX2_take mwX4_138 xciX2 dX4_sweep_139 rfl rfl rfl (Nat.le_of_ble_eq_true rfl) ?_
    have p128 : Bg σ128 156 (A k k) := r1.bg (by simp; omega) (by simp; omega) (q1.bg (by simp; omega) (by simp; omega) k4)
    refine (b_take G l ad F R (d + 1) σ128 155 156 ⟨by decide, by decide⟩ ⟨by decide, by decide⟩ (by decide) (A k k) p128 (B9up (hbA k k hk (Nat.le_refl _)) (by decide))).mono (fun x9 σ139 hp => ?_)
    obtain ⟨rfl, t1, t2⟩ := hp
    intro M N S hM
    show xX G l _ (d + 5) _ _ _ _ M N S
    refine x_aload_n (q := 143) dX4_sweep_142 rfl rfl ?_
    refine c_get (q := 146) (k := 4) (f := 4) hM rfl xclX4 fwX4_24 (by decide) dX4_sweep_143 rfl rfl ?_
    refine x_iload_n (q := 147) dX4_sweep_146 rfl rfl ?_
    refine xn_iconst (q := 148) 1 dX4_sweep_147 rfl (by decide) ?_
    refine c_zast (q := 149) (k := 30) (n := 10) hM (by decide) (fun _ => rfl) (by decide) dX4_sweep_148 rfl (by omega) (by decide) (fun M σ148 a148 e148 b148 hM => ?_)
    have hcl : Cll σ139 (m2 (swN fr k A y) k k (-y)) := by
      have c1 : Cll σ1 (swN fr k A y) := k5
      have c2 := c1.upd hk (Nat.le_refl _) q1 q2
      have c3 := c2.upd hk (Nat.le_refl _) r1 r2
      have c4 := c3.keep t1 (fun j hj => by simp at hj; omega)
      refine c4.congr (fun i j hi hj => ?_)
      unfold m2; split <;> rfl
    rw [hs]
    refine x_vret rfl dX4_sweep_149 (c_ret hM ⟨rfl, k1.trans ((q1.cel hk (Nat.le_refl _)).trans ((r1.cel hk (Nat.le_refl _)).trans ((t1.mono (fun a ha => by rw [mem_cK]; simp at ha; omega)).trans (a148.mono (fun a ha => by rw [mem_cK]; simp at ha; omega))))), hcl.keep a148 (fun j hj => by simp at hj; omega), a148.bg (by decide) (by decide) t2, fun s hs => ?_⟩)
    rw [e148, t1 30 (by decide), r1 30 (by simp; omega), q1 30 (by simp; omega), k2]
    show _ = bI (mu sw k true s)
    by_cases es : s = k
    · rw [es, mu_s]; simp only [upd, if_true]; rfl
    · rw [mu_n es]; simp only [upd, if_neg es]; exact hsw s hs

  have outer : ∀ (u i : Nat) (σ1 : cZ) (M : xM) (N S : Nat), i + u = 10 → fr k = true → A k k ≠ 0 → kp cK σ σ1 → σ1 30 = σ 30 → σ1 29 = σ 29 → Bg σ1 155 y → Bg σ1 156 (A k k) → (∀ a b, a < 10 → b ≤ a → Bg σ1 (100 + tri a b) (swA fr k A y i 0 a b)) → cA G ad F R σ1 M N S → xX G l YX4_sweep (d + 5) (cQ G ad F R (fun r σ' => r = none ∧ kp cK σ σ' ∧ Cll σ' (swC fr k (A, y, sw)).1 ∧ Bg σ' 155 (swC fr k (A, y, sw)).2.1 ∧ ∀ s, s < 10 → (σ' 30).1 s = bI ((swC fr k (A, y, sw)).2.2 s))) 34 [(0, .ref (ad 4)), (1, .int (nI k)), (2, .ref (ad (100 + tri k k))), (3, .int (nI i))] [] M N S := by
    intro u
    induction u with
    | zero =>
      intro i σ1 M N S hi hf hnz k1 k2 k29 k3 k4 k5 hM
      clear hbA hby

      refine x_iload_n (q := 35) dX4_sweep_34 rfl rfl ?_
      refine xn_bipush (q := 37) 10 dX4_sweep_35 rfl (by decide) ?_
      refine xn_icmp_ge (q := 40) 115 dX4_sweep_37 (by decide) rfl (by omega) (by omega) (fun hc37 => ?_) (fun hc37 => absurd hc37 (by omega))
      refine x_ls (ls' := [(0, _), (1, _), (2, _)]) [0, 1, 2] rfl ?_
      exact fin σ1 M N S hf hnz k1 k2 k29 k3 k4 (fun a b ha hb => by have := k5 a b ha hb; unfold swA at this; rw [if_pos (by omega)] at this; exact this) hM

    | succ u ih =>
      intro i σ0 M N S hi hf hnz k1' k2' k29' k3' k4' k5' hM
      have inner : ∀ (v j : Nat) (σ1 : cZ) (M : xM) (N S : Nat), j + v = i + 1 → kp cK σ σ1 → σ1 30 = σ 30 → σ1 29 = σ 29 → Bg σ1 155 y → Bg σ1 156 (A k k) → (∀ a b, a < 10 → b ≤ a → Bg σ1 (100 + tri a b) (swA fr k A y i j a b)) → cA G ad F R σ1 M N S → xX G l YX4_sweep (d + 5) (cQ G ad F R (fun r σ' => r = none ∧ kp cK σ σ' ∧ Cll σ' (swC fr k (A, y, sw)).1 ∧ Bg σ' 155 (swC fr k (A, y, sw)).2.1 ∧ ∀ s, s < 10 → (σ' 30).1 s = bI ((swC fr k (A, y, sw)).2.2 s))) 43 [(0, .ref (ad 4)), (1, .int (nI k)), (2, .ref (ad (100 + tri k k))), (3, .int (nI i)), (4, .int (nI j))] [] M N S := by
        intro v
        induction v with
        | zero =>
          intro j σ1 M N S hj k1 k2 k29 k3 k4 k5 hM
          clear hbA hby

          refine x_iload (q := 45) dX4_sweep_43 rfl rfl ?_
          refine x_iload_n (q := 46) dX4_sweep_45 rfl rfl ?_
          refine xn_icmp_gt (q := 49) 109 dX4_sweep_46 (by decide) rfl (by omega) (by omega) (fun hc46 => ?_) (fun hc46 => absurd hc46 (by omega))
          refine xn_iinc (q := 112) (ls' := [(0, _), (1, _), (2, _), (3, _), (4, _)]) [1, 2, 3, 0, 4] 1 dX4_sweep_109 rfl rfl (by decide) (by decide) rfl ?_
          refine x_goto 34 dX4_sweep_112 (by decide) ?_
          refine x_ls (ls' := [(0, _), (1, _), (2, _), (3, _)]) [0, 1, 2, 3] rfl ?_
          exact ih (i + 1) σ1 M N S (by omega) hf hnz k1 k2 k29 k3 k4 (fun a b ha hb => by
            have := k5 a b ha hb
            unfold swA at *
            by_cases e : a < i + 1
            · rw [if_pos (by omega)] at this; rw [if_pos (by omega)]; exact this
            · rw [if_neg (by omega)] at this; rw [if_neg (by omega)]; exact this) hM

        | succ v ihv =>
          intro j σ1 M N S hj k1 k2 k29 k3 k4 k5 hM
          have tb := tri_bg (i := i) (j := j) (by omega) (by omega)
          have hi10 : i < 10 := by omega
          have hj10 : j < 10 := by omega
          have hji : j ≤ i := by omega
          have b1 := hbA i j hi10 hji
          have b2 := hbA k k hk (Nat.le_refl _)
          have b3 := hbA (max i k) (min i k) (by omega) (by omega)
          have b4 := hbA (max j k) (min j k) (by omega) (by omega)
          clear hbA hby
          have stay : swN fr k A y i j = A i j → ∀ a b, a < 10 → b ≤ a → Bg σ1 (100 + tri a b) (swA fr k A y i (j + 1) a b) := fun hsame a b ha hb => by
            by_cases e : a = i ∧ b = j
            · have h9 := k5 a b ha hb
              rw [e.1, e.2] at h9 ⊢
              have e1 : swA fr k A y i j i j = A i j := if_neg (by omega)
              have e2 : swA fr k A y i (j + 1) i j = swN fr k A y i j := if_pos (by omega)
              rw [e1] at h9; rw [e2, hsame]; exact h9
            · rw [swA_step e]; exact k5 a b ha hb

          refine x_iload (q := 45) dX4_sweep_43 rfl rfl ?_
          refine x_iload_n (q := 46) dX4_sweep_45 rfl rfl ?_
          refine xn_icmp_gt (q := 49) 109 dX4_sweep_46 (by decide) rfl (by omega) (by omega) (fun hc46 => absurd hc46 (by omega)) (fun hc46 => ?_)
          refine x_aload_n (q := 50) dX4_sweep_49 rfl rfl ?_
          refine c_get (q := 53) (k := 4) (f := 3) hM rfl xclX4 fwX4_20 (by decide) dX4_sweep_50 rfl rfl ?_
          refine x_iload_n (q := 54) dX4_sweep_53 rfl rfl ?_
          refine c_zald (q := 55) (k := 29) (n := 10) hM rfl (by decide) (by decide) dX4_sweep_54 rfl (by omega) ?_
          refine x_topi (y := bI (fr i)) (by rw [k29]; exact hfr i (by omega)) ?_
          refine x_if_eq (q := 58) 103 dX4_sweep_55 (by decide) rfl (fun hc55 => ?_) (fun hc55 => ?_)
          · refine xn_iinc (q := 106) (ls' := [(0, _), (1, _), (2, _), (3, _), (4, _)]) [1, 2, 3, 4, 0] 1 dX4_sweep_103 rfl rfl (by decide) (by decide) rfl ?_
            refine x_goto 43 dX4_sweep_106 (by decide) ?_
            exact ihv (j + 1) σ1 M N S (by omega) k1 k2 k29 k3 k4 (stay (if_neg (fun z => by rw [bI_eq.mp hc55] at z; exact absurd z.1 (by decide)))) hM
          · refine x_aload_n (q := 59) dX4_sweep_58 rfl rfl ?_
            refine c_get (q := 62) (k := 4) (f := 3) hM rfl xclX4 fwX4_20 (by decide) dX4_sweep_59 rfl rfl ?_
            refine x_iload (q := 64) dX4_sweep_62 rfl rfl ?_
            refine c_zald (q := 65) (k := 29) (n := 10) hM rfl (by decide) (by decide) dX4_sweep_64 rfl (by omega) ?_
            refine x_topi (y := bI (fr j)) (by rw [k29]; exact hfr j (by omega)) ?_
            refine x_if_eq (q := 68) 103 dX4_sweep_65 (by decide) rfl (fun hc65 => ?_) (fun hc65 => ?_)
            · refine xn_iinc (q := 106) (ls' := [(0, _), (1, _), (2, _), (3, _), (4, _)]) [1, 2, 3, 4, 0] 1 dX4_sweep_103 rfl rfl (by decide) (by decide) rfl ?_
              refine x_goto 43 dX4_sweep_106 (by decide) ?_
              exact ihv (j + 1) σ1 M N S (by omega) k1 k2 k29 k3 k4 (stay (if_neg (fun z => by rw [bI_eq.mp hc65] at z; exact absurd z.2.1 (by decide)))) hM
            · refine x_iload_n (q := 69) dX4_sweep_68 rfl rfl ?_
              refine x_iload_n (q := 70) dX4_sweep_69 rfl rfl ?_
              refine xn_icmp_eq (q := 73) 103 dX4_sweep_70 (by decide) rfl (by omega) (by omega) (fun hc70 => ?_) (fun hc70 => ?_)
              · refine xn_iinc (q := 106) (ls' := [(0, _), (1, _), (2, _), (3, _), (4, _)]) [1, 2, 3, 4, 0] 1 dX4_sweep_103 rfl rfl (by decide) (by decide) rfl ?_
                refine x_goto 43 dX4_sweep_106 (by decide) ?_
                exact ihv (j + 1) σ1 M N S (by omega) k1 k2 k29 k3 k4 (stay (if_neg (fun z => z.2.2.1 hc70))) hM
              · refine x_iload (q := 75) dX4_sweep_73 rfl rfl ?_
                refine x_iload_n (q := 76) dX4_sweep_75 rfl rfl ?_
                refine xn_icmp_eq (q := 79) 103 dX4_sweep_76 (by decide) rfl (by omega) (by omega) (fun hc76 => ?_) (fun hc76 => ?_)
                · refine xn_iinc (q := 106) (ls' := [(0, _), (1, _), (2, _), (3, _), (4, _)]) [1, 2, 3, 4, 0] 1 dX4_sweep_103 rfl rfl (by decide) (by decide) rfl ?_
                  refine x_goto 43 dX4_sweep_106 (by decide) ?_
                  exact ihv (j + 1) σ1 M N S (by omega) k1 k2 k29 k3 k4 (stay (if_neg (fun z => z.2.2.2 hc76))) hM
                · refine x_aload_n (q := 80) dX4_sweep_79 rfl rfl ?_
                  refine x_aload_n (q := 81) dX4_sweep_80 rfl rfl ?_
                  refine x_iload_n (q := 82) dX4_sweep_81 rfl rfl ?_
                  refine x_iload (q := 84) dX4_sweep_82 rfl rfl ?_
                  refine c_call (q := 87) (k := 4) (As := [_, _]) hM rfl imX4_cellOf ivX4_cellOf ilX4_cellOf mwX4_89 xciX4 dX4_sweep_84 rfl rfl rfl (Nat.le_of_ble_eq_true rfl) ?_
                  refine (b_cellOf G l ad F R (d + 4) σ1 i j (by omega) (by omega)).mono (fun x9 σ9' hp => ?_)
                  obtain ⟨rfl, e9⟩ := hp
                  intro M N S hM
                  rw [e9] at hM; clear e9 σ9'
                  rw [show max i j = i by omega, show min i j = j by omega]
                  show xX G l _ (d + 5) _ _ _ _ M N S
                  refine x_aload_n (q := 88) dX4_sweep_87 rfl rfl ?_
                  refine x_iload_n (q := 89) dX4_sweep_88 rfl rfl ?_
                  refine x_iload_n (q := 90) dX4_sweep_89 rfl rfl ?_
                  refine c_call (q := 93) (k := 4) (As := [_, _]) hM rfl imX4_cellOf ivX4_cellOf ilX4_cellOf mwX4_89 xciX4 dX4_sweep_90 rfl rfl rfl (Nat.le_of_ble_eq_true rfl) ?_
                  refine (b_cellOf G l ad F R (d + 4) σ1 i k (by omega) (by omega)).mono (fun x9 σ9' hp => ?_)
                  obtain ⟨rfl, e9⟩ := hp
                  intro M N S hM
                  rw [e9] at hM; clear e9 σ9'
                  show xX G l _ (d + 5) _ _ _ _ M N S
                  refine x_aload_n (q := 94) dX4_sweep_93 rfl rfl ?_
                  refine x_iload (q := 96) dX4_sweep_94 rfl rfl ?_
                  refine x_iload_n (q := 97) dX4_sweep_96 rfl rfl ?_
                  refine c_call (q := 100) (k := 4) (As := [_, _]) hM rfl imX4_cellOf ivX4_cellOf ilX4_cellOf mwX4_89 xciX4 dX4_sweep_97 rfl rfl rfl (Nat.le_of_ble_eq_true rfl) ?_
                  refine (b_cellOf G l ad F R (d + 4) σ1 j k (by omega) (by omega)).mono (fun x9 σ9' hp => ?_)
                  obtain ⟨rfl, e9⟩ := hp
                  intro M N S hM
                  rw [e9] at hM; clear e9 σ9'
                  show xX G l _ (d + 5) _ _ _ _ M N S
                  refine c_call (q := 103) (k := 4) (As := [_, _, _]) hM rfl imX4_sweepCell ivX4_sweepCell ilX4_sweepCell mwX4_142 xciX4 dX4_sweep_100 rfl rfl rfl (Nat.le_of_ble_eq_true rfl) ?_
                  have x1 := k5 i j hi10 hji
                  rw [show swA fr k A y i j i j = A i j from if_neg (by omega)] at x1
                  have x2 := k5 (max i k) (min i k) (by omega) (by omega)
                  rw [swA_k (by omega)] at x2
                  have x3 := k5 (max j k) (min j k) (by omega) (by omega)
                  rw [swA_k (by omega)] at x3
                  refine (b_sweepCell G l ad F R (d + 0) σ1 (100 + tri i j) (100 + tri (max i k) (min i k)) (100 + tri (max j k) (min j k)) (sw_t hi10 hji) (sw_mm hi10 hk) (sw_mm hj10 hk) (A i j) (A k k) (clP A i k) (clP A j k) y x1 k4 x2 x3 k3 b1 b2 b3 b4).mono (fun x9 σ100 hp => ?_)
                  obtain ⟨rfl, q1, q2⟩ := hp
                  intro M N S hM
                  show xX G l _ (d + 5) _ _ _ _ M N S
                  refine xn_iinc (q := 106) (ls' := [(0, _), (1, _), (2, _), (3, _), (4, _)]) [1, 2, 3, 4, 0] 1 dX4_sweep_103 rfl rfl (by decide) (by decide) rfl ?_
                  refine x_goto 43 dX4_sweep_106 (by decide) ?_
                  obtain ⟨m1, m2', m3, m4, m5, m6⟩ := sw_kp hi10 hji q1
                  have hnew : swN fr k A y i j = (A i j * A k k - clP A i k * clP A j k).tdiv y := if_pos ⟨bI_ne.mp hc55, bI_ne.mp hc65, hc70, hc76⟩
                  refine ihv (j + 1) σ100 M N S (by omega) (k1.trans m1) (m2'.trans k2) (m3.trans k29) (m5 _ k3) (m6 _ k4) (fun a b ha hb => ?_) hM
                  by_cases e : a = i ∧ b = j
                  · rw [e.1, e.2]
                    have e2 : swA fr k A y i (j + 1) i j = swN fr k A y i j := if_pos (by omega)
                    rw [e2, hnew]; exact q2
                  · rw [swA_step e]; exact m4 a b ha hb e _ (k5 a b ha hb)

      refine x_iload_n (q := 35) dX4_sweep_34 rfl rfl ?_
      refine xn_bipush (q := 37) 10 dX4_sweep_35 rfl (by decide) ?_
      refine xn_icmp_ge (q := 40) 115 dX4_sweep_37 (by decide) rfl (by omega) (by omega) (fun hc37 => absurd hc37 (by omega)) (fun hc37 => ?_)
      refine xn_iconst (q := 41) 0 dX4_sweep_40 rfl (by decide) ?_
      refine x_istore (q := 43) (ls' := [(0, _), (1, _), (2, _), (3, _), (4, _)]) [1, 2, 3, 4, 0] dX4_sweep_41 rfl (by decide) rfl ?_
      exact inner (i + 1) 0 σ0 M N S (by omega) k1' k2' k29' k3' k4' k5' hM

  refine cC.of (ls := [(0, .ref (ad 4)), (1, .int (nI k))]) (by decide) (Nat.le_of_ble_eq_true rfl) rfl fun M N S hM => ?_
  have ckk := hC k k hk (Nat.le_refl _)
  have ckk0 := ckk.choose_spec.2.2.1
  have sbd := sign_bd (A k k)
  have bkk := B9up (hbA k k hk (Nat.le_refl _)) (show 100 ≤ 1024 by decide)
  clear hbA

  refine x_aload_n (q := 1) dX4_sweep_0 rfl rfl ?_
  refine x_iload_n (q := 2) dX4_sweep_1 rfl rfl ?_
  refine x_iload_n (q := 3) dX4_sweep_2 rfl rfl ?_
  refine c_call (q := 6) (k := 4) (As := [_, _]) hM rfl imX4_cellOf ivX4_cellOf ilX4_cellOf mwX4_89 xciX4 dX4_sweep_3 rfl rfl rfl (Nat.le_of_ble_eq_true rfl) ?_
  refine (b_cellOf G l ad F R (d + 4) σ k k hk hk).mono (fun x9 σ9' hp => ?_)
  obtain ⟨rfl, e9⟩ := hp
  intro M N S hM
  rw [e9] at hM; clear e9 σ9'
  rw [show max k k = k by omega, show min k k = k by omega]
  show xX G l _ (d + 5) _ _ _ _ M N S
  refine x_astore_n (q := 7) (ls' := [(0, _), (1, _), (2, _)]) [1, 2, 0] dX4_sweep_6 rfl (by decide) rfl ?_
  refine x_aload_n (q := 8) dX4_sweep_7 rfl rfl ?_
  refine c_get (q := 11) (k := 4) (f := 3) hM rfl xclX4 fwX4_20 (by decide) dX4_sweep_8 rfl rfl ?_
  refine x_iload_n (q := 12) dX4_sweep_11 rfl rfl ?_
  refine c_zald (q := 13) (k := 29) (n := 10) hM rfl (by decide) (by decide) dX4_sweep_12 rfl (by omega) ?_
  refine x_topi (y := bI (fr k)) (by exact hfr k hk) ?_
  refine x_if_eq (q := 16) 23 dX4_sweep_13 (by decide) rfl (fun hc13 => ?_) (fun hc13 => ?_)
  · have hs : swC fr k (A, y, sw) = (A, y, sw) := if_neg (fun z => by rw [bI_eq.mp hc13] at z; exact absurd z.1 (by decide))
    rw [hs]
    exact x_vret rfl dX4_sweep_23 (c_ret hM ⟨rfl, kp.rfl', hC, hy, hsw⟩)
  · refine x_aload_n (q := 17) dX4_sweep_16 rfl rfl ?_
    refine c_getN (q := 20) (k := (100 + tri k k)) (f := 0) hM (cE_big _ _ kb) xclX2 fnX4_135 (by decide) dX4_sweep_17 rfl rfl ?_
    refine x_topi (y := iI (A k k).sign) (by rw [ckk0]; exact sg_iI _) ?_
    refine xi_if_ne (q := 23) 24 dX4_sweep_20 (by decide) rfl rfl (by omega) (by omega) (fun hc20 => ?_) (fun hc20 => ?_)
    · refine x_aload_n (q := 25) dX4_sweep_24 rfl rfl ?_
      refine c_get (q := 28) (k := 4) (f := 9) hM rfl xclX4 fwX4_45 (by decide) dX4_sweep_25 rfl rfl ?_
      refine x_aload_n (q := 29) dX4_sweep_28 rfl rfl ?_
      refine c_call (q := 32) (k := 156) (As := [_]) hM (cE_big _ _ ⟨by decide, by decide⟩) imX2_take ivX2_take ilX2_take mwX4_138 xciX2 dX4_sweep_29 rfl rfl rfl (Nat.le_of_ble_eq_true rfl) ?_
      refine (b_take G l ad F R (d + 1) σ 156 (100 + tri k k) ⟨by decide, by decide⟩ kb (fun e => by have := hkk.2; omega) (A k k) ckk bkk).mono (fun x9 σ29 hp => ?_)
      obtain ⟨rfl, q1, q2⟩ := hp
      intro M N S hM
      show xX G l _ (d + 5) _ _ _ _ M N S
      refine xn_iconst (q := 33) 0 dX4_sweep_32 rfl (by decide) ?_
      refine x_istore_n (q := 34) (ls' := [(0, _), (1, _), (2, _), (3, _)]) [1, 2, 3, 0] dX4_sweep_33 rfl (by decide) rfl ?_
      have hnz : A k k ≠ 0 := fun e => hc20 (by rw [e]; rfl)
      exact outer 10 0 σ29 M N S (by decide) (bI_ne.mp hc13) hnz (q1.mono (fun a ha => by rw [mem_cK]; simp at ha; omega)) (q1 30 (by decide)) (q1 29 (by decide)) (q1.bg (by decide) (by decide) hy) q2 (fun a b ha hb => by rw [show swA fr k A y 0 0 a b = A a b from if_neg (by omega)]; exact (hC.keep q1 (fun j hj => by simp at hj; omega)) a b ha hb) hM
    · have hs : swC fr k (A, y, sw) = (A, y, sw) := if_neg (fun z => z.2 (Int.sign_eq_zero_iff_zero.mp hc20))
      rw [hs]
      exact x_vret rfl dX4_sweep_23 (c_ret hM ⟨rfl, kp.rfl', hC, hy, hsw⟩)

end XC2
