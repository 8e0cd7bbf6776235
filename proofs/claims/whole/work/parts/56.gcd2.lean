section XA9
theorem DvP.kp1 {w p q : Nat} {σ σ' : cZ} (h : DvP w p q) (k : kp [p, p + 100] σ σ') : kp (dvK w) σ σ' := k.mono (fun j hj => by unfold DvP at h; simp at hj ⊢; omega)
theorem DvP.kp2 {w p q : Nat} {σ σ' : cZ} (h : DvP w p q) (k : kp [p, p + 100, 147 + 3 * w, 147 + 3 * w + 100] σ σ') : kp (dvK w) σ σ' := k.mono (fun j hj => by unfold DvP at h; simp at hj ⊢; omega)
theorem gcd_lt {a b k : Nat} (ha : a < k) (hb : b < k) : Nat.gcd a b < k := by
  rcases Nat.eq_zero_or_pos a with e | e
  · rw [e, Nat.gcd_zero_left]; exact hb
  · exact Nat.lt_of_le_of_lt (Nat.gcd_le_left _ e) ha
theorem B9_60 : B9 ^ 2000 ≤ 2 ^ 60000 := by
  rw [show 60000 = 30 * 2000 from rfl, Nat.pow_mul]
  exact Nat.pow_le_pow_left (by decide) _
theorem sg_nat {n : Nat} (h : 0 < n) : sg (n : Int) = 1 := sg_pos (by omega)

set_option maxRecDepth 100000 in
set_option maxHeartbeats 4000000 in
theorem b_of (G : xG) (l : Launch) (ad : Nat → Nat) (F : xM) (R : Nat × Nat) (d : Nat) (σ : cZ) (w a c : Nat) (hw : w = 9 ∨ w = 10) (ha : isBg a) (hc : isBg c) (hax : a ∉ dvK w) (hcx : c ∉ dvK w) (x y : Int) (hx : Bg σ a x) (hy : Bg σ c y) (hxl : x.natAbs < B9 ^ 1000) (hyl : y.natAbs < B9 ^ 1000) (hdv : DvOk σ w) : cC G l ad F R YX3_of (d + 4) [.ref (ad w), .ref (ad a), .ref (ad c)] σ (fun r σ' => kp (dvK w) σ σ' ∧ DvOk σ' w ∧ ∃ p', (p' = 148 + 3 * w ∨ p' = 149 + 3 * w) ∧ r = some (.ref (ad p')) ∧ Bg σ' p' ((Nat.gcd x.natAbs y.natAbs : Nat) : Int)) := by
  obtain ⟨p0, q0, hpq0, f1, f2⟩ := hdv
  have hax2 : a + 100 ∉ dvK w := fun h => by have := ha.1; have := ha.2; simp at h hax; omega
  have hcx2 : c + 100 ∉ dvK w := fun h => by have := hc.1; have := hc.2; simp at h hcx; omega
  refine cC.of (ls := [(0, .ref (ad w)), (1, .ref (ad a)), (2, .ref (ad c))]) (by decide) (Nat.le_of_ble_eq_true rfl) rfl fun M N S hM => ?_
  have s113 : ∀ (p q : Nat) (vz : Int) (σ2 : cZ) (M : xM) (N S : Nat) (ls : List (Nat × Value)), DvP w p q → kp (dvK w) σ σ2 → (σ2 w).2.2 1 = p → (σ2 w).2.2 2 = q → Bg σ2 p vz → vz.natAbs = Nat.gcd x.natAbs y.natAbs → cA G ad F R σ2 M N S → xX G l YX3_of (d + 4) (cQ G ad F R (fun r σ' => kp (dvK w) σ σ' ∧ DvOk σ' w ∧ ∃ p', (p' = 148 + 3 * w ∨ p' = 149 + 3 * w) ∧ r = some (.ref (ad p')) ∧ Bg σ' p' ((Nat.gcd x.natAbs y.natAbs : Nat) : Int))) 113 [(0, .ref (ad w)), (1, .ref (ad a)), (2, .ref (ad c))] [] M N S := by
    intro p q vz σ2 M N S ls hpq k1 h1 h2 hb hv hM
    obtain ⟨hpb, hqb, hne, htb, ht1, ht2⟩ := hpq.bg hw
    obtain ⟨n, hn, hlen, b0, b1, bd⟩ := hb
    have hll := hM.2.2.2.1 p hpb
    have hz := nl_zero_iff hn
    have hp3 : p = 148 + 3 * w ∨ p = 149 + 3 * w := by unfold DvP at hpq; omega
    have hwp : w ∉ [p] := by simp; omega

    refine x_aload_n (q := 114) dX3_of_113 rfl rfl ?_
    refine c_get (q := 117) (k := w) (f := 1) hM (cE_dv _ _ hw) xclX3 fwX3_16 (by decide) dX3_of_114 rfl rfl ?_
    refine x_topa (a' := ad p) (by rw [h1]) ?_
    refine x_aload_n (q := 118) dX3_of_117 rfl rfl ?_
    refine c_get (q := 121) (k := w) (f := 1) hM (cE_dv _ _ hw) xclX3 fwX3_16 (by decide) dX3_of_118 rfl rfl ?_
    refine x_topa (a' := ad p) (by rw [h1]) ?_
    refine c_getN (q := 124) (k := p) (f := 1) hM (cE_big _ _ hpb) xclX2 fnX3_51 (by decide) dX3_of_121 rfl rfl ?_
    refine x_topi (y := nI n) (by exact b1) ?_
    refine xn_if_le (q := 127) 131 dX3_of_124 (by decide) rfl (by omega) (fun hc124 => ?_) (fun hc124 => ?_)
    · refine xn_iconst (q := 132) 0 dX3_of_131 rfl (by decide) ?_
      refine c_putiN (q := 135) (k := p) (f := 0) hM (cE_big _ _ hpb) (by rw [cE_big _ _ hpb, mu_s]; rfl) xclX2 fnX3_27 (by decide) rfl rfl (Nat.le_of_ble_eq_true rfl) dX3_of_132 rfl rfl rfl (fun M σ132 a132 e132 b132 hM => ?_)
      refine x_aload_n (q := 136) dX3_of_135 rfl rfl ?_
      refine c_get (q := 139) (k := w) (f := 1) hM (cE_dv _ _ hw) xclX3 fwX3_16 (by decide) dX3_of_136 rfl rfl ?_
      refine x_topa (a' := ad p) (by rw [a132 w hwp, h1]) ?_
      refine x_aret rfl (.inl ⟨_, rfl⟩) dX3_of_139 (c_ret hM ⟨k1.trans (hpq.kp1 a132.b), ⟨p, q, hpq, by rw [a132 w hwp]; exact h1, by rw [a132 w hwp]; exact h2⟩, p, hp3, rfl, n, by rw [Int.natAbs_natCast, ← hv]; exact hn, by rw [b132]; exact hlen, ?_, by rw [e132, mu_n (by decide)]; exact b1, fun j hj => by rw [a132 _ (by simp), Int.natAbs_natCast, ← hv]; exact bd j hj⟩)
      rw [e132, mu_s, ← hv, hz.mp (by omega)]; rfl
    · refine xn_iconst (q := 128) 1 dX3_of_127 rfl (by decide) ?_
      refine x_goto 132 dX3_of_128 (by decide) ?_
      refine c_putiN (q := 135) (k := p) (f := 0) hM (cE_big _ _ hpb) (by rw [cE_big _ _ hpb, mu_s]; rfl) xclX2 fnX3_27 (by decide) rfl rfl (Nat.le_of_ble_eq_true rfl) dX3_of_132 rfl rfl rfl (fun M σ132 a132 e132 b132 hM => ?_)
      refine x_aload_n (q := 136) dX3_of_135 rfl rfl ?_
      refine c_get (q := 139) (k := w) (f := 1) hM (cE_dv _ _ hw) xclX3 fwX3_16 (by decide) dX3_of_136 rfl rfl ?_
      refine x_topa (a' := ad p) (by rw [a132 w hwp, h1]) ?_
      refine x_aret rfl (.inl ⟨_, rfl⟩) dX3_of_139 (c_ret hM ⟨k1.trans (hpq.kp1 a132.b), ⟨p, q, hpq, by rw [a132 w hwp]; exact h1, by rw [a132 w hwp]; exact h2⟩, p, hp3, rfl, n, by rw [Int.natAbs_natCast, ← hv]; exact hn, by rw [b132]; exact hlen, ?_, by rw [e132, mu_n (by decide)]; exact b1, fun j hj => by rw [a132 _ (by simp), Int.natAbs_natCast, ← hv]; exact bd j hj⟩)
      rw [e132, mu_s, ← hv, sg_nat (by omega)]; rfl

  have fin : ∀ (p q : Nat) (vx vy : Int) (σ1 : cZ) (M : xM) (N S : Nat), DvP w p q → kp (dvK w) σ σ1 → (σ1 w).2.2 1 = p → (σ1 w).2.2 2 = q → ∀ n m, nl vx.natAbs n → nl vy.natAbs m → Bg σ1 p vx → Bg σ1 q vy → (vy = 0 ∨ n ≤ 2 ∧ m ≤ 2) → Nat.gcd vx.natAbs vy.natAbs = Nat.gcd x.natAbs y.natAbs → cA G ad F R σ1 M N S → xX G l YX3_of (d + 4) (cQ G ad F R (fun r σ' => kp (dvK w) σ σ' ∧ DvOk σ' w ∧ ∃ p', (p' = 148 + 3 * w ∨ p' = 149 + 3 * w) ∧ r = some (.ref (ad p')) ∧ Bg σ' p' ((Nat.gcd x.natAbs y.natAbs : Nat) : Int))) 82 [(0, .ref (ad w)), (1, .ref (ad a)), (2, .ref (ad c))] [] M N S := by
    intro p q vx vy σ1 M N S hpq k1 h1 h2 n m hn hm hb hb2 hor hg hM
    obtain ⟨hpb, hqb, hne, htb, ht1, ht2⟩ := hpq.bg hw
    have hb' := hb
    have hb2' := hb2
    obtain ⟨n', hn', hlen, b0, b1, bd⟩ := hb
    obtain rfl := nl_uniq hn hn'
    obtain ⟨m', hm', hlen2, c0, c1, cd⟩ := hb2
    obtain rfl := nl_uniq hm hm'
    have hll := hM.2.2.2.1 p hpb
    have hll2 := hM.2.2.2.1 q hqb

    refine x_aload_n (q := 83) dX3_of_82 rfl rfl ?_
    refine c_call (q := 86) (k := w) (As := []) hM (cE_dv _ _ hw) imX3_areShort ivX3_areShort ilX3_areShort mwX3_31 xciX3 dX3_of_83 rfl rfl rfl (Nat.le_of_ble_eq_true rfl) ?_
    refine (b_areShort G l ad F R (d + 3) σ1 w p q n m hw hpb hqb h1 h2 b1 c1 (by omega) (by omega)).mono (fun x9 σ9' hp => ?_)
    obtain ⟨rfl, e9⟩ := hp
    intro M N S hM
    rw [e9] at hM; clear e9 σ9'
    show xX G l _ (d + 4) _ _ _ _ M N S
    refine x_if_eq (q := 89) 113 dX3_of_86 (by decide) rfl (fun hc86 => ?_) (fun hc86 => ?_)
    · have hns := of_decide_eq_false (bI_eq.mp hc86)
      have hy0 : vy = 0 := hor.resolve_right hns
      exact s113 p q vx σ1 M N S [] hpq k1 h1 h2 hb' (by rw [← hg, hy0]; exact (Nat.gcd_zero_right _).symm) hM
    · have hsh := of_decide_eq_true (bI_ne.mp hc86)
      have q1 := nl_le2 hn hsh.1
      have q2 := nl_le2 hm hsh.2
      refine x_aload_n (q := 90) dX3_of_89 rfl rfl ?_
      refine c_get (q := 93) (k := w) (f := 1) hM (cE_dv _ _ hw) xclX3 fwX3_16 (by decide) dX3_of_90 rfl rfl ?_
      refine x_topa (a' := ad p) (by rw [h1]) ?_
      refine x_aload_n (q := 94) dX3_of_93 rfl rfl ?_
      refine c_get (q := 97) (k := w) (f := 1) hM (cE_dv _ _ hw) xclX3 fwX3_16 (by decide) dX3_of_94 rfl rfl ?_
      refine x_topa (a' := ad p) (by rw [h1]) ?_
      refine c_call (q := 100) (k := p) (As := []) hM (cE_big _ _ hpb) imX2_lowest ivX2_lowest ilX2_lowest mwX3_39 xciX2 dX3_of_97 rfl rfl rfl (Nat.le_of_ble_eq_true rfl) ?_
      refine (b_lowest G l ad F R (d + 2) σ1 p hpb vx hb').mono (fun x9 σ9' hp => ?_)
      obtain ⟨rfl, e9⟩ := hp
      intro M N S hM
      rw [e9] at hM; clear e9 σ9'
      rw [q1.1]
      show xX G l _ (d + 4) _ _ _ _ M N S
      refine x_aload_n (q := 101) dX3_of_100 rfl rfl ?_
      refine c_get (q := 104) (k := w) (f := 2) hM (cE_dv _ _ hw) xclX3 fwX3_19 (by decide) dX3_of_101 rfl rfl ?_
      refine x_topa (a' := ad q) (by rw [h2]) ?_
      refine c_call (q := 107) (k := q) (As := []) hM (cE_big _ _ hqb) imX2_lowest ivX2_lowest ilX2_lowest mwX3_39 xciX2 dX3_of_104 rfl rfl rfl (Nat.le_of_ble_eq_true rfl) ?_
      refine (b_lowest G l ad F R (d + 2) σ1 q hqb vy hb2').mono (fun x9 σ9' hp => ?_)
      obtain ⟨rfl, e9⟩ := hp
      intro M N S hM
      rw [e9] at hM; clear e9 σ9'
      rw [q2.1]
      show xX G l _ (d + 4) _ _ _ _ M N S
      refine c_callS (q := 110) (As := [_, _]) hM imX3_ofLongs isX3_ofLongs mwX3_43 dX3_of_107 rfl rfl rfl (Nat.le_of_ble_eq_true rfl) ?_
      refine (cC.of_x (fun M N S => j_ofLongs G l (d + 3) M N S vx.natAbs vy.natAbs q1.2 q2.2)).mono (fun x9 σ9' hp => ?_)
      obtain ⟨rfl, e9⟩ := hp
      intro M N S hM
      rw [e9] at hM; clear e9 σ9'
      show xX G l _ (d + 4) _ _ _ _ M N S
      refine x_topl (y := iL ((Nat.gcd vx.natAbs vy.natAbs : Nat) : Int)) (lN_i' _) ?_
      refine c_call (q := 113) (k := p) (As := [_]) hM (cE_big _ _ hpb) imX2_takeLong ivX2_takeLong ilX2_takeLong mwX3_47 xciX2 dX3_of_110 rfl rfl rfl (Nat.le_of_ble_eq_true rfl) ?_
      have hgl := gcd_lt q1.2 q2.2
      refine (b_takeLong G l ad F R (d + 2) σ1 p hpb ((Nat.gcd vx.natAbs vy.natAbs : Nat) : Int) (by rw [Int.natAbs_natCast]; omega)).mono (fun x9 σ5 hp => ?_)
      obtain ⟨rfl, p1, p2⟩ := hp
      intro M N S hM
      show xX G l _ (d + 4) _ _ _ _ M N S
      exact s113 p q _ σ5 M N S [] hpq (k1.trans (hpq.kp1 p1)) (by rw [p1 w (by unfold DvP at hpq; simp; omega)]; exact h1) (by rw [p1 w (by unfold DvP at hpq; simp; omega)]; exact h2) p2 (by rw [Int.natAbs_natCast]; exact hg) hM

  have loop : ∀ (u i p q : Nat) (vx vy : Int) (σ1 : cZ) (M : xM) (N S : Nat), i + u = 1000000 → DvP w p q → kp (dvK w) σ σ1 → (σ1 w).2.2 1 = p → (σ1 w).2.2 2 = q → Bg σ1 p vx → Bg σ1 q vy → vx.natAbs < B9 ^ 1000 → vy.natAbs < B9 ^ 1000 → eucl (x.natAbs * y.natAbs) i vx.natAbs vy.natAbs → Nat.gcd vx.natAbs vy.natAbs = Nat.gcd x.natAbs y.natAbs → cA G ad F R σ1 M N S → xX G l YX3_of (d + 4) (cQ G ad F R (fun r σ' => kp (dvK w) σ σ' ∧ DvOk σ' w ∧ ∃ p', (p' = 148 + 3 * w ∨ p' = 149 + 3 * w) ∧ r = some (.ref (ad p')) ∧ Bg σ' p' ((Nat.gcd x.natAbs y.natAbs : Nat) : Int))) 18 [(0, .ref (ad w)), (1, .ref (ad a)), (2, .ref (ad c)), (3, .int (nI i))] [] M N S := by
    intro u
    induction u with
    | zero =>
      intro i p q vx vy σ1 M N S hi hpq k1 h1 h2 hb hb2 l1 l2 he hg hM
      have hP : x.natAbs * y.natAbs < 2 ^ 60000 := Nat.lt_of_lt_of_le (Nat.mul_lt_mul'' hxl hyl) (by rw [← Nat.pow_add]; exact B9_60)
      have hz : vy.natAbs = 0 := he.end hP (by omega)
      have hz2 : vy = 0 := by clear he hP; omega
      have hb' := hb
      have hb2' := hb2
      obtain ⟨n, hn, -⟩ := hb
      obtain ⟨m, hm, -⟩ := hb2

      refine x_iload_n (q := 19) dX3_of_18 rfl rfl ?_
      refine xn_ldc (q := 21) 1000000 dX3_of_19 rfl cwX3_22 ?_
      refine xn_icmp_ge (q := 24) 82 dX3_of_21 (by decide) rfl (by omega) (by omega) (fun hc21 => ?_) (fun hc21 => absurd hc21 (by omega))
      refine x_ls (ls' := [(0, _), (1, _), (2, _)]) [0, 1, 2] rfl ?_
      exact fin p q vx vy σ1 M N S hpq k1 h1 h2 n m hn hm hb' hb2' (.inl hz2) hg hM

    | succ u ih =>
      intro i p q vx vy σ1 M N S hi hpq k1 h1 h2 hb hb2 l1 l2 he hg hM
      obtain ⟨hpb, hqb, hne, htb, ht1, ht2⟩ := hpq.bg hw
      have hb' := hb
      have hb2' := hb2
      obtain ⟨n, hn, hlen, b0, b1, bd⟩ := hb
      obtain ⟨m, hm, hlen2, c0, c1, cd⟩ := hb2
      have hll := hM.2.2.2.1 p hpb
      have hll2 := hM.2.2.2.1 q hqb
      have sv := sign_bd vy

      refine x_iload_n (q := 19) dX3_of_18 rfl rfl ?_
      refine xn_ldc (q := 21) 1000000 dX3_of_19 rfl cwX3_22 ?_
      refine xn_icmp_ge (q := 24) 82 dX3_of_21 (by decide) rfl (by omega) (by omega) (fun hc21 => absurd hc21 (by omega)) (fun hc21 => ?_)
      refine x_aload_n (q := 25) dX3_of_24 rfl rfl ?_
      refine c_get (q := 28) (k := w) (f := 2) hM (cE_dv _ _ hw) xclX3 fwX3_19 (by decide) dX3_of_25 rfl rfl ?_
      refine x_topa (a' := ad q) (by rw [h2]) ?_
      refine c_getN (q := 31) (k := q) (f := 0) hM (cE_big _ _ hqb) xclX2 fnX3_27 (by decide) dX3_of_28 rfl rfl ?_
      refine x_topi (y := iI vy.sign) (by rw [c0]; exact sg_iI _) ?_
      refine xi_if_eq (q := 34) 82 dX3_of_31 (by decide) rfl rfl (by omega) (by omega) (fun hc31 => ?_) (fun hc31 => ?_)
      · refine x_ls (ls' := [(0, _), (1, _), (2, _)]) [0, 1, 2] rfl ?_
        exact fin p q vx vy σ1 M N S hpq k1 h1 h2 n m hn hm hb' hb2' (.inl (Int.sign_eq_zero_iff_zero.mp hc31)) hg hM
      · refine x_aload_n (q := 35) dX3_of_34 rfl rfl ?_
        refine c_call (q := 38) (k := w) (As := []) hM (cE_dv _ _ hw) imX3_areShort ivX3_areShort ilX3_areShort mwX3_31 xciX3 dX3_of_35 rfl rfl rfl (Nat.le_of_ble_eq_true rfl) ?_
        refine (b_areShort G l ad F R (d + 3) σ1 w p q n m hw hpb hqb h1 h2 b1 c1 (by omega) (by omega)).mono (fun x9 σ9' hp => ?_)
        obtain ⟨rfl, e9⟩ := hp
        intro M N S hM
        rw [e9] at hM; clear e9 σ9'
        show xX G l _ (d + 4) _ _ _ _ M N S
        refine x_if_ne (q := 41) 82 dX3_of_38 (by decide) rfl (fun hc38 => ?_) (fun hc38 => ?_)
        · refine x_ls (ls' := [(0, _), (1, _), (2, _)]) [0, 1, 2] rfl ?_
          exact fin p q vx vy σ1 M N S hpq k1 h1 h2 n m hn hm hb' hb2' (.inr (of_decide_eq_true (bI_ne.mp hc38))) hg hM
        · refine x_aload_n (q := 42) dX3_of_41 rfl rfl ?_
          refine c_get (q := 45) (k := w) (f := 1) hM (cE_dv _ _ hw) xclX3 fwX3_16 (by decide) dX3_of_42 rfl rfl ?_
          refine x_topa (a' := ad p) (by rw [h1]) ?_
          refine x_aload_n (q := 46) dX3_of_45 rfl rfl ?_
          refine c_get (q := 49) (k := w) (f := 2) hM (cE_dv _ _ hw) xclX3 fwX3_19 (by decide) dX3_of_46 rfl rfl ?_
          refine x_topa (a' := ad q) (by rw [h2]) ?_
          refine x_aload_n (q := 50) dX3_of_49 rfl rfl ?_
          refine c_get (q := 53) (k := w) (f := 0) hM (cE_dv _ _ hw) xclX3 fwX3_10 (by decide) dX3_of_50 rfl rfl ?_
          refine c_call (q := 56) (k := p) (As := [_, _]) hM (cE_big _ _ hpb) imX2_split ivX2_split ilX2_split mwX3_35 xciX2 dX3_of_53 rfl rfl rfl (Nat.le_of_ble_eq_true rfl) ?_
          refine (b_split G l ad F R d σ1 p q (147 + 3 * w) hpb hqb htb hne ht1 ht2 vx vy hb' hb2' l1).mono (fun x9 σ53 hp => ?_)
          obtain ⟨rfl, p1, p2, p3⟩ := hp
          intro M N S hM
          show xX G l _ (d + 4) _ _ _ _ M N S
          have ew : σ53 w = σ1 w := p1 w (by unfold DvP at hpq; simp; omega)
          refine x_aload_n (q := 57) dX3_of_56 rfl rfl ?_
          refine c_get (q := 60) (k := w) (f := 1) hM (cE_dv _ _ hw) xclX3 fwX3_16 (by decide) dX3_of_57 rfl rfl ?_
          refine x_topa (a' := ad p) (by rw [ew, h1]) ?_
          refine x_astore (q := 62) (ls' := [(0, _), (1, _), (2, _), (3, _), (4, _)]) [1, 2, 3, 4, 0] dX3_of_60 rfl (by decide) rfl ?_
          refine x_aload_n (q := 63) dX3_of_62 rfl rfl ?_
          refine x_aload_n (q := 64) dX3_of_63 rfl rfl ?_
          refine c_get (q := 67) (k := w) (f := 2) hM (cE_dv _ _ hw) xclX3 fwX3_19 (by decide) dX3_of_64 rfl rfl ?_
          refine x_topa (a' := ad q) (by rw [ew, h2]) ?_
          refine c_putp (q := 70) (k := w) (f := 1) (w := q) hM (cE_dv _ _ hw) (by rw [cE_dv _ _ hw, mu_s]; rfl) (dv_nb hw) xclX3 fwX3_16 (by decide) rfl rfl (Nat.le_of_ble_eq_true rfl) dX3_of_67 rfl rfl rfl (fun M σ67 a67 e67 b67 hM => ?_)
          refine x_aload_n (q := 71) dX3_of_70 rfl rfl ?_
          refine x_aload (q := 73) dX3_of_71 rfl rfl ?_
          refine c_putp (q := 76) (k := w) (f := 2) (w := p) hM (cE_dv _ _ hw) (by rw [cE_dv _ _ hw, mu_s]; rfl) (dv_nb hw) xclX3 fwX3_19 (by decide) rfl rfl (Nat.le_of_ble_eq_true rfl) dX3_of_73 rfl rfl rfl (fun M σ73 a73 e73 b73 hM => ?_)
          refine xn_iinc (q := 79) (ls' := [(0, _), (1, _), (2, _), (3, _), (4, _)]) [1, 2, 3, 0, 4] 1 dX3_of_76 rfl rfl (by decide) (by decide) rfl ?_
          refine x_goto 18 dX3_of_79 (by decide) ?_
          refine x_ls (ls' := [(0, _), (1, _), (2, _), (3, _)]) [0, 1, 2, 3] rfl ?_
          have hq0 : 0 < vy.natAbs := Int.natAbs_pos.mpr (fun h => hc31 (by rw [h]; rfl))
          have hml := Nat.mod_lt vx.natAbs hq0
          have kw : p ∉ [w] ∧ p + 100 ∉ [w] ∧ q ∉ [w] ∧ q + 100 ∉ [w] := by unfold DvP at hpq; simp; omega
          have k73 := a67.trans a73
          have kq : q ∉ [p, p + 100, 147 + 3 * w, 147 + 3 * w + 100] ∧ q + 100 ∉ [p, p + 100, 147 + 3 * w, 147 + 3 * w + 100] := by unfold DvP at hpq; simp; omega
          exact ih (i + 1) q p vy (vx.tmod vy) σ73 M N S (by clear he; omega) hpq.swap (k1.trans ((hpq.kp2 p1).trans (k73.mono (fun j hj => by simp at hj; simp [hj])))) (by rw [e73, mu_n (by decide), e67, mu_s]) (by rw [e73, mu_s]) (k73.bg kw.2.2.1 kw.2.2.2 (p1.bg kq.1 kq.2 hb2')) (k73.bg kw.1 kw.2.1 p2) l2 (by rw [Int.natAbs_tmod]; exact Nat.lt_trans hml l2) (by rw [Int.natAbs_tmod]; exact he.step hq0) (by rw [Int.natAbs_tmod]; exact gcd_step.trans hg) hM

  obtain ⟨hpb, hqb, hne, htb, ht1, ht2⟩ := hpq0.bg hw
  have n1 : p0 ≠ a ∧ q0 ≠ a ∧ p0 ≠ c ∧ q0 ≠ c := by unfold DvP at hpq0; simp at hax hcx; omega

  refine x_aload_n (q := 1) dX3_of_0 rfl rfl ?_
  refine c_get (q := 4) (k := w) (f := 1) hM (cE_dv _ _ hw) xclX3 fwX3_16 (by decide) dX3_of_1 rfl rfl ?_
  refine x_topa (a' := ad p0) (by rw [f1]) ?_
  refine x_aload_n (q := 5) dX3_of_4 rfl rfl ?_
  refine c_call (q := 8) (k := p0) (As := [_]) hM (cE_big _ _ hpb) imX2_take ivX2_take ilX2_take mwX3_23 xciX2 dX3_of_5 rfl rfl rfl (Nat.le_of_ble_eq_true rfl) ?_
  have hxt := Nat.lt_of_lt_of_le hxl (B9_mono (show 1000 ≤ 1024 by decide))
  refine (b_take G l ad F R (d + 0) σ p0 a hpb ha n1.1 x hx hxt).mono (fun x9 σ5 hp => ?_)
  obtain ⟨rfl, k5, r5⟩ := hp
  intro M N S hM
  show xX G l _ (d + 4) _ _ _ _ M N S
  refine x_aload_n (q := 9) dX3_of_8 rfl rfl ?_
  refine c_get (q := 12) (k := w) (f := 2) hM (cE_dv _ _ hw) xclX3 fwX3_19 (by decide) dX3_of_9 rfl rfl ?_
  refine x_topa (a' := ad q0) (by rw [k5 w (by unfold DvP at hpq0; simp; omega), f2]) ?_
  refine x_aload_n (q := 13) dX3_of_12 rfl rfl ?_
  refine c_call (q := 16) (k := q0) (As := [_]) hM (cE_big _ _ hqb) imX2_take ivX2_take ilX2_take mwX3_23 xciX2 dX3_of_13 rfl rfl rfl (Nat.le_of_ble_eq_true rfl) ?_
  have hyt := Nat.lt_of_lt_of_le hyl (B9_mono (show 1000 ≤ 1024 by decide))
  have hyc : Bg σ5 c y := (hpq0.kp1 k5).bg hcx hcx2 hy
  refine (b_take G l ad F R (d + 0) σ5 q0 c hqb hc n1.2.2.2 y hyc hyt).mono (fun x9 σ13 hp => ?_)
  obtain ⟨rfl, k13, r13⟩ := hp
  intro M N S hM
  show xX G l _ (d + 4) _ _ _ _ M N S
  refine xn_iconst (q := 17) 0 dX3_of_16 rfl (by decide) ?_
  refine x_istore_n (q := 18) (ls' := [(0, _), (1, _), (2, _), (3, _)]) [1, 2, 3, 0] dX3_of_17 rfl (by decide) rfl ?_
  have wq : w ∉ [p0, p0 + 100] ∧ w ∉ [q0, q0 + 100] ∧ p0 ∉ [q0, q0 + 100] ∧ p0 + 100 ∉ [q0, q0 + 100] := by unfold DvP at hpq0; simp; omega
  exact loop 1000000 0 p0 q0 x y σ13 M N S (by omega) hpq0 ((hpq0.kp1 k5).trans (hpq0.swap.kp1 k13)) (by rw [k13 w wq.2.1, k5 w wq.1]; exact f1) (by rw [k13 w wq.2.1, k5 w wq.1]; exact f2) (k13.bg wq.2.2.1 wq.2.2.2 r5) r13 hxl hyl (.inl ⟨rfl, Nat.le_refl _⟩) rfl hM

end XA9
