section XE3
def rcU (u v : Int) : Int := u.tdiv ((Nat.gcd u.natAbs v.natAbs : Nat) : Int)
def rcL (u v : Int) : Int := v.tdiv ((Nat.gcd u.natAbs v.natAbs : Nat) : Int)
/-- the class's value of a row, and what it stands over -/
def atU (c : mCf) (r : Nat × Nat × Nat) (k p : Nat) : Int := meP c (lfP c r.1 r.2.1 r.2.2) (gnP c r.1 r.2.1) (owP c r.1 r.2.1 r.2.2 k p (fun i => decide (i = r.2.1))) k p
def atL (c : mCf) (r : Nat × Nat × Nat) : Int := (swP c 10).2.1 * whP c r.1 r.2.1
def arT (c : mCf) (r : Nat × Nat × Nat) (τ : Int) : Int × Int × Int × Int := aS (fun k' q' => atU c r k' q' * τ) c.L 0 (5 * c.m)
def arU (c : mCf) (r : Nat × Nat × Nat) (τ : Int) : Int := (arT c r τ).2.1 * (arT c r τ).2.2.2 + (arT c r τ).2.2.1
def arL (c : mCf) (r : Nat × Nat × Nat) (τ : Int) : Int := (swP c 10).2.1 * whP c r.1 r.2.1 * (arT c r τ).2.2.2 * 8
/-- what the ratio holds under a key -/
def Kv (c : mCf) (rs : List (Nat × Nat × Nat)) (key u v : Int) : Prop :=
  (∃ n k p : Nat, n < rs.length ∧ k < c.m ∧ p ≤ 4 ∧ key = ((n * 3 + k) * 5 + p : Nat) ∧ u = atU c (rowAt rs n) k p ∧ v = atL c (rowAt rs n)) ∨
  (∃ (n : Nat) (τ : Int), n < rs.length ∧ (τ = 1 ∨ τ = -1) ∧ key = ((200 + n * 2 : Nat) : Int) + (if 0 < τ then 1 else 0) ∧ u = arU c (rowAt rs n) τ ∧ v = arL c (rowAt rs n) τ) ∨
  (∃ (n : Nat) (a b : Int), n ≤ c.m ∧ (-1000 ≤ a ∧ a ≤ 1000) ∧ (1 ≤ b ∧ b ≤ 1000) ∧ key = 1000 + ((n : Int) * 2001 + a + 1000) * 1001 + b ∧ u = msU c n a ∧ v = msL c n b)
def Tl (σ : cZ) (c : mCf) (rs : List (Nat × Nat × Nat)) : Prop := ∃ key : Int, (σ 0).2.1 13 = iL key ∧ -1 ≤ key ∧ key < 100000000000 ∧ (key = -1 ∨ ∃ u v, Kv c rs key u v ∧ Bg σ 171 (rcU u v) ∧ Bg σ 172 (rcL u v))
theorem DvOk.of_kp {ks : List Nat} {σ σ' : cZ} {w : Nat} (h : DvOk σ w) (k : kp ks σ σ') (hn : w ∉ ks) : DvOk σ' w := by
  obtain ⟨p, q, h1, h2, h3⟩ := h
  exact ⟨p, q, h1, by rw [k w hn]; exact h2, by rw [k w hn]; exact h3⟩
theorem Tl.of_kp {ks : List Nat} {σ σ' : cZ} {c : mCf} {rs : List (Nat × Nat × Nat)} (h : Tl σ c rs) (k : kp ks σ σ') (hn : ∀ j ∈ ks, j ≠ 0 ∧ j ≠ 171 ∧ j ≠ 271 ∧ j ≠ 172 ∧ j ≠ 272) : Tl σ' c rs := by
  obtain ⟨key, h1, h2, h3, h4⟩ := h
  refine ⟨key, by rw [k 0 (fun z => (hn 0 z).1 rfl)]; exact h1, h2, h3, ?_⟩
  rcases h4 with h4 | ⟨u, v, a, b, e⟩
  · exact .inl h4
  · exact .inr ⟨u, v, a, k.bg (fun z => (hn _ z).2.1 rfl) (fun z => (hn _ z).2.2.1 rfl) b, k.bg (fun z => (hn _ z).2.2.2.1 rfl) (fun z => (hn _ z).2.2.2.2 rfl) e⟩
theorem Tl.none {σ : cZ} {c : mCf} {rs : List (Nat × Nat × Nat)} (h : (σ 0).2.1 13 = iL (-1)) : Tl σ c rs := ⟨-1, h, by decide, by decide, .inl rfl⟩
/-- the class's invariant: beams, text, rows, frame, divisors, the last value, what is told -/
def Ci (σ : cZ) (c : mCf) (t : List Nat) (rs : List (Nat × Nat × Nat)) : Prop := Bm σ 1 c ∧ Tx σ t ∧ Rc σ c rs ∧ Fi σ c ∧ DvOk σ 9 ∧ DvOk σ 10 ∧ (∃ v, Bg σ 163 v ∧ v.natAbs < B9 ^ 39) ∧ Tl σ c rs
/-- the same with the frame prepared, but for what is told -/
def Cj (σ : cZ) (c : mCf) (t : List Nat) (rs : List (Nat × Nat × Nat)) : Prop := Bm σ 1 c ∧ Tx σ t ∧ Rc σ c rs ∧ ((σ 4).1 13 = nI 1 ∧ Fk σ c) ∧ DvOk σ 9 ∧ DvOk σ 10 ∧ (∃ v, Bg σ 163 v ∧ v.natAbs < B9 ^ 39)
theorem Ci.prep {σ σ' : cZ} {c : mCf} {t : List Nat} {rs : List (Nat × Nat × Nat)} (h : Ci σ c t rs) (k : kp pK σ σ') (h1 : (σ' 4).1 13 = nI 1) (h2 : Fk σ' c) : Cj σ' c t rs ∧ Tl σ' c rs := by
  obtain ⟨a, b, e, f, g, i, ⟨v, j1, j2⟩, m⟩ := h
  have hn : ∀ j, j ∈ pK → j = 4 ∨ 27 ≤ j := fun j hj => by rw [mem_pK] at hj; omega
  have hm : ∀ j, j ∈ pK → j < 159 ∨ (200 ≤ j ∧ j < 259) := fun j hj => by rw [mem_pK] at hj; omega
  exact ⟨⟨bmk' a k (fun j hj => by have := hn j hj; omega), b.of_kp k (fun z => by have := hn _ z; omega) (fun z => by have := hn _ z; omega), e.of_kp k (fun j hj => by have := hn j hj; omega), ⟨h1, h2⟩, g.of_kp k (fun z => by have := hn _ z; omega), i.of_kp k (fun z => by have := hn _ z; omega), ⟨v, k.bg (fun z => by have := hm _ z; omega) (fun z => by have := hm _ z; omega) j1, j2⟩⟩, m.of_kp k (fun j hj => by have := hn j hj; have := hm j hj; omega)⟩
theorem Cj.of_kp {ks : List Nat} {σ σ' : cZ} {c : mCf} {t : List Nat} {rs : List (Nat × Nat × Nat)} (h : Cj σ c t rs) (k : kp ks σ σ') (hn : ∀ j ∈ ks, j = 5 ∨ j = 6 ∨ (34 ≤ j ∧ j < 40) ∨ (156 ≤ j ∧ j < 163) ∨ (164 ≤ j ∧ j < 180) ∨ (256 ≤ j ∧ j < 263) ∨ (264 ≤ j ∧ j < 280)) : Cj σ' c t rs := by
  obtain ⟨a, b, e, ⟨f1, f2⟩, g, i, ⟨v, j1, j2⟩⟩ := h
  refine ⟨bmk' a k (fun j hj => by have := hn j hj; omega), b.of_kp k (fun z => by have := hn _ z; omega) (fun z => by have := hn _ z; omega), e.of_kp k (fun j hj => by have := hn j hj; omega), ⟨?_, f2.of_kp k (fun j hj => by have := hn j hj; omega)⟩, g.of_kp k (fun z => by have := hn _ z; omega), i.of_kp k (fun z => by have := hn _ z; omega), ⟨v, k.bg (fun z => by have := hn _ z; omega) (fun z => by have := hn _ z; omega) j1, j2⟩⟩
  rw [k 4 (fun z => by have := hn _ z; omega)]; exact f1
theorem Cj.ci {σ : cZ} {c : mCf} {t : List Nat} {rs : List (Nat × Nat × Nat)} (h : Cj σ c t rs) (hT : Tl σ c rs) : Ci σ c t rs := ⟨h.1, h.2.1, h.2.2.1, .inr h.2.2.2.1, h.2.2.2.2.1, h.2.2.2.2.2.1, h.2.2.2.2.2.2, hT⟩
theorem Cj.div {ks : List Nat} {σ σ' : cZ} {c : mCf} {t : List Nat} {rs : List (Nat × Nat × Nat)} (h : Cj σ c t rs) (k : kp ks σ σ') (hn : ∀ j ∈ ks, j = 10 ∨ (34 ≤ j ∧ j < 40) ∨ (156 ≤ j ∧ j < 163) ∨ (164 ≤ j ∧ j < 180) ∨ (256 ≤ j ∧ j < 263) ∨ (264 ≤ j ∧ j < 280)) (hd : DvOk σ' 10) : Cj σ' c t rs := by
  obtain ⟨a, b, e, ⟨f1, f2⟩, g, i, ⟨v, j1, j2⟩⟩ := h
  refine ⟨bmk' a k (fun j hj => by have := hn j hj; omega), b.of_kp k (fun z => by have := hn _ z; omega) (fun z => by have := hn _ z; omega), e.of_kp k (fun j hj => by have := hn j hj; omega), ⟨?_, f2.of_kp k (fun j hj => by have := hn j hj; omega)⟩, g.of_kp k (fun z => by have := hn _ z; omega), hd, ⟨v, k.bg (fun z => by have := hn _ z; omega) (fun z => by have := hn _ z; omega) j1, j2⟩⟩
  rw [k 4 (fun z => by have := hn _ z; omega)]; exact f1
/-- the last step: the key is put down -/
theorem bmk0 {σ σ' : cZ} {c : mCf} (h : Bm σ 1 c) (k : kp [0] σ σ') : Bm σ' 1 c := h.kp k (by decide)
theorem Cj.key {σ σ' : cZ} {c : mCf} {t : List Nat} {rs : List (Nat × Nat × Nat)} (h : Cj σ c t rs) (k : kp [0] σ σ') (h1 : (σ' 0).1 = (σ 0).1) : Cj σ' c t rs := by
  obtain ⟨a, b, e, ⟨f1, f2⟩, g, i, ⟨v, j1, j2⟩⟩ := h
  refine ⟨bmk0 a k, b.of_kp k (by decide) (by decide), ⟨e.1, by rw [h1]; exact e.2.1, fun s hs => ?_⟩, ⟨by rw [k 4 (by decide)]; exact f1, f2.of_kp k (by decide)⟩, g.of_kp k (by decide), i.of_kp k (by decide), ⟨v, k.bg (by decide) (by decide) j1, j2⟩⟩
  rw [k 11 (by decide), k 12 (by decide), k 13 (by decide)]; exact e.2.2 s hs
theorem Tl.key {σ σ' : cZ} {c : mCf} {rs : List (Nat × Nat × Nat)} {key u v : Int} (k : kp [0] σ σ') (e : (σ' 0).2.1 13 = iL key) (h1 : -1 ≤ key) (h2 : key < 100000000000) (hk : Kv c rs key u v) (hu : Bg σ 171 (rcU u v)) (hv : Bg σ 172 (rcL u v)) : Tl σ' c rs := ⟨key, e, h1, h2, .inr ⟨u, v, hk, k.bg (by decide) (by decide) hu, k.bg (by decide) (by decide) hv⟩⟩
theorem at_lt {c : mCf} (hok : okL c) (hfo : frOk c) {r : Nat × Nat × Nat} (hr : okRow c r) {k p : Nat} (hk : k < c.m) (hp : p ≤ 4) : (atU c r k p).natAbs < B9 ^ 39 := me_lt hfo (lfP_sm (w := r.1) (k := r.2.1) (q := r.2.2) hok hr) (fun s _ => Nat.le_trans (shP_le hok hk hp s) (by decide)) (gnP_le (w := r.1) (k := r.2.1) (q := r.2.2) hok hr) (owP_le (w := r.1) (k := r.2.1) (q := r.2.2) hok hr hk hp _)
theorem atL_lt {c : mCf} (hok : okL c) (hfo : frOk c) {r : Nat × Nat × Nat} (hr : okRow c r) : (atL c r).natAbs < B9 ^ 14 := B9m (hfo 10 (Nat.le_refl _)).2 (B9_2 (whP_le (w := r.1) (k := r.2.1) (q := r.2.2) hok hr))
/-- the class's answer of at -/
def isAn (c : mCf) (rs : List (Nat × Nat × Nat)) (n q : Int) : Bool := decide (-1 ≤ q ∧ 0 ≤ n ∧ n < (rs.length : Int) ∧ slN (slC c) 4 = 0 ∧ ((rowAt rs n.toNat).1 ≠ 3 ∨ c.Hi (rowAt rs n.toNat).2.1 = true))
def cAt (c : mCf) (rs : List (Nat × Nat × Nat)) (n k p q : Int) : Int64 := if isAn c rs n q = true ∧ plB c k p = true then tellv q (rcU (atU c (rowAt rs n.toNat) k.toNat p.toNat) (atL c (rowAt rs n.toNat))) (rcL (atU c (rowAt rs n.toNat) k.toNat p.toNat) (atL c (rowAt rs n.toNat))) else iL (refP q)

set_option maxRecDepth 100000 in
set_option maxHeartbeats 4000000 in
theorem b_at (G : xG) (l : Launch) (ad : Nat → Nat) (F : xM) (R : Nat × Nat) (d : Nat) (σ : cZ) (c : mCf) (t : List Nat) (rs : List (Nat × Nat × Nat)) (hok : okL c) (hfo : frOk c) (hC : Ci σ c t rs) (n k p q : Int) (hn1 : -2147483648 ≤ n) (hn2 : n < 2147483648) (hk1 : -2147483648 ≤ k) (hk2 : k < 2147483648) (hp1 : -2147483648 ≤ p) (hp2 : p < 2147483648) (hq1 : -2147483648 ≤ q) (hq2 : q < 2147483648) : cC G l ad F R YX8_at (d + 7) [.ref (ad 0), .int (iI n), .int (iI k), .int (iI p), .int (iI q)] σ (fun r σ' => r = some (.long (cAt c rs n k p q)) ∧ Ci σ' c t rs) := by
  have hm := hok.1
  have hC0 := hC
  obtain ⟨hc, ht, hr, hF, -⟩ := hC
  have h8 := hr.1
  refine cC.of (ls := [(0, .ref (ad 0)), (1, .int (iI n)), (2, .int (iI k)), (3, .int (iI p)), (4, .int (iI q))]) (by decide) (Nat.le_of_ble_eq_true rfl) rfl fun M N S hM => ?_

  refine x_aload_n (q := 1) dX8_at_0 rfl rfl ?_
  refine c_get (q := 4) (k := 0) (f := 3) hM rfl xclX8 fwX8_31 (by decide) dX8_at_1 rfl rfl ?_
  refine c_call (q := 7) (k := 4) (As := []) hM rfl imX4_prepare ivX4_prepare ilX4_prepare mwX8_136 xciX4 dX8_at_4 rfl rfl rfl (Nat.le_of_ble_eq_true rfl) ?_
  refine (b_prepare G l ad F R d σ c hc hok hfo hF).mono (fun x9 σ4 hp => ?_)
  obtain ⟨rfl, q1, q2, q3⟩ := hp
  intro M N S hM
  show xX G l _ (d + 7) _ _ _ _ M N S
  obtain ⟨hJ, hT⟩ := hC0.prep q1 q2 q3
  obtain ⟨key0, tk1, tk2, tk3, tk4⟩ := hT
  have hT : Tl σ4 c rs := ⟨key0, tk1, tk2, tk3, tk4⟩
  refine x_aload_n (q := 8) dX8_at_7 rfl rfl ?_
  refine x_iload_n (q := 9) dX8_at_8 rfl rfl ?_
  refine x_iload (q := 11) dX8_at_9 rfl rfl ?_
  refine c_call (q := 14) (k := 0) (As := [_, _]) hM rfl imX8_isAnswered ivX8_isAnswered ilX8_isAnswered mwX8_151 xciX8 dX8_at_11 rfl rfl rfl (Nat.le_of_ble_eq_true rfl) ?_
  refine (b_isAnswered G l ad F R (d + 4) σ4 c hJ.1 rs hJ.2.2.1 (slC c) hJ.2.2.2.1.2.2.2.2.2.2.2 n q hn1 hn2 hq1 hq2).mono (fun x9 σ9' hp => ?_)
  obtain ⟨rfl, e9⟩ := hp
  intro M N S hM
  rw [e9] at hM; clear e9 σ9'
  show xX G l _ (d + 7) _ _ _ _ M N S
  refine x_if_eq (q := 17) 26 dX8_at_14 (by decide) rfl (fun hc14 => ?_) (fun hc14 => ?_)
  · refine x_iload (q := 28) dX8_at_26 rfl rfl ?_
    refine x_callS (q := 31) (As := [_]) imX8_refusal isX8_refusal mwX8_158 dX8_at_28 rfl rfl rfl (Nat.le_of_ble_eq_true rfl) ?_
    refine (b_refusal G l (d + 6) M N S q hq1 hq2).mono (fun x9 M9 N9 S9 hp => ?_)
    obtain ⟨rfl, rfl, rfl, rfl⟩ := hp
    show xX G l _ (d + 7) _ _ _ _ _ _ _
    exact x_lret rfl dX8_at_31 (c_ret hM ⟨by rw [show cAt c rs n k p q = iL (refP q) from if_neg (fun z => absurd z.1 (by rw [show isAn c rs n q = false from bI_eq.mp hc14]; decide))], hJ.ci hT⟩)
  · refine x_aload_n (q := 18) dX8_at_17 rfl rfl ?_
    refine x_iload_n (q := 19) dX8_at_18 rfl rfl ?_
    refine x_iload_n (q := 20) dX8_at_19 rfl rfl ?_
    refine c_call (q := 23) (k := 0) (As := [_, _]) hM rfl imX8_isPlace ivX8_isPlace ilX8_isPlace mwX8_155 xciX8 dX8_at_20 rfl rfl rfl (Nat.le_of_ble_eq_true rfl) ?_
    refine (b_isPlace G l ad F R (d + 6) σ4 c hJ.1 k p hk1 hk2 hp1 hp2).mono (fun x9 σ9' hp => ?_)
    obtain ⟨rfl, e9⟩ := hp
    intro M N S hM
    rw [e9] at hM; clear e9 σ9'
    show xX G l _ (d + 7) _ _ _ _ M N S
    refine x_if_ne (q := 26) 32 dX8_at_23 (by decide) rfl (fun hc23 => ?_) (fun hc23 => ?_)
    · have hAn : isAn c rs n q = true := bI_ne.mp hc14
      have hPl : plB c k p = true := bI_ne.mp hc23
      have hA := of_decide_eq_true hAn
      have hP := of_decide_eq_true hPl
      have hr4 := hJ.2.2.1.2.2 n.toNat (by omega)
      have hl8 : n.toNat < 8 := by omega
      have hrow : okRow c (rowAt rs n.toNat) := hr4.2.2.2
      have hk3 : k.toNat < c.m := by omega
      have hp4 : p.toNat ≤ 4 := by omega
      have hkey : (n * 3 + k) * 5 + p = (((n.toNat * 3 + k.toNat) * 5 + p.toNat : Nat) : Int) := by omega
      have hkb : 0 ≤ (n * 3 + k) * 5 + p ∧ (n * 3 + k) * 5 + p < 200 := by omega
      have hKv : Kv c rs ((n * 3 + k) * 5 + p) (atU c (rowAt rs n.toNat) k.toNat p.toNat) (atL c (rowAt rs n.toNat)) := .inl ⟨n.toNat, k.toNat, p.toNat, by omega, hk3, hp4, hkey, rfl, rfl⟩
      have hbU := B9up (at_lt hok hfo hrow hk3 hp4) (show 39 ≤ 1000 by decide)
      have hbL := B9up (atL_lt hok hfo hrow) (show 14 ≤ 1000 by decide)
      have hbd : (swP c 10).2.1.natAbs < B9 ^ 1000 := B9up (hfo 10 (Nat.le_refl _)).2 (by decide)
      refine x_iload_n (q := 33) dX8_at_32 rfl rfl ?_
      refine xn_iconst (q := 34) 3 dX8_at_33 rfl (by decide) ?_
      refine xi_imul (q := 35) dX8_at_34 rfl rfl (nI_i _) ?_
      refine x_iload_n (q := 36) dX8_at_35 rfl rfl ?_
      refine xi_iadd (q := 37) dX8_at_36 rfl rfl rfl ?_
      refine xn_iconst (q := 38) 5 dX8_at_37 rfl (by decide) ?_
      refine xi_imul (q := 39) dX8_at_38 rfl rfl (nI_i _) ?_
      refine x_iload_n (q := 40) dX8_at_39 rfl rfl ?_
      refine xi_iadd (q := 41) dX8_at_40 rfl rfl rfl ?_
      refine xi_i2l (q := 42) dX8_at_41 rfl rfl (by omega) (by omega) ?_
      refine x_lstore (q := 44) (ls' := [(0, _), (1, _), (2, _), (3, _), (4, _), (5, _)]) [1, 2, 3, 4, 5, 0] dX8_at_42 rfl (by decide) rfl ?_
      refine x_lload (q := 46) dX8_at_44 rfl rfl ?_
      refine x_aload_n (q := 47) dX8_at_46 rfl rfl ?_
      refine c_get (q := 50) (k := 0) (f := 13) hM rfl xclX8 fwX8_84 (by decide) dX8_at_47 rfl rfl ?_
      refine x_topl (y := iL key0) (by exact tk1) ?_
      refine xi_lcmp_eq (q1 := 51) (q := 54) 129 dX8_at_50 rfl dX8_at_51 (by decide) rfl rfl rfl (by omega) (by omega) (by omega) (by omega) (fun hc50 => ?_) (fun hc50 => ?_)
      · obtain ⟨u9, v9, kv9, bu9, bv9⟩ := tk4.resolve_left (by omega)
        obtain ⟨eu9, ev9⟩ : u9 = atU c (rowAt rs n.toNat) k.toNat p.toNat ∧ v9 = atL c (rowAt rs n.toNat) := by
          rcases kv9 with ⟨n', k', p', z1, z2, z3, z4, z5, z6⟩ | ⟨n', τ', z1, z2, z3, z4, z5⟩ | ⟨n', a', b', z1, z2, z3, z4, z5, z6⟩
          · have y1 : n' = n.toNat := by clear hbU hbL hbd; omega
            have y2 : k' = k.toNat := by clear hbU hbL hbd; omega
            have y3 : p' = p.toNat := by clear hbU hbL hbd; omega
            rw [y1, y2, y3] at z5; rw [y1] at z6; exact ⟨z5, z6⟩
          · exfalso; have y1 : (200 : Int) ≤ key0 := by rw [z3]; split <;> omega
            clear hbU hbL hbd; omega
          · exfalso; clear hbU hbL hbd; omega
        rw [eu9, ev9] at bu9 bv9
        refine x_aload_n (q := 130) dX8_at_129 rfl rfl ?_
        refine c_get (q := 133) (k := 0) (f := 7) hM rfl xclX8 fwX8_57 (by decide) dX8_at_130 rfl rfl ?_
        refine x_iload (q := 135) dX8_at_133 rfl rfl ?_
        refine c_call (q := 138) (k := 8) (As := [_]) hM rfl imX6_part ivX6_part ilX6_part mwX8_186 xciX6 dX8_at_135 rfl rfl rfl (Nat.le_of_ble_eq_true rfl) ?_
        refine (b_part G l ad F R (d + 5) σ4 q _ _ (by omega) hq2 bu9 bv9).mono (fun x9 σ9' hp => ?_)
        obtain ⟨rfl, e9⟩ := hp
        intro M N S hM
        rw [e9] at hM; clear e9 σ9'
        show xX G l _ (d + 7) _ _ _ _ M N S
        exact x_lret rfl dX8_at_138 (c_ret hM ⟨by rw [show cAt c rs n k p q = tellv q (rcU (atU c (rowAt rs n.toNat) k.toNat p.toNat) (atL c (rowAt rs n.toNat))) (rcL (atU c (rowAt rs n.toNat) k.toNat p.toNat) (atL c (rowAt rs n.toNat))) from if_pos ⟨hAn, hPl⟩], hJ.ci hT⟩)
      · refine x_aload_n (q := 55) dX8_at_54 rfl rfl ?_
        refine c_get (q := 58) (k := 0) (f := 4) hM rfl xclX8 fwX8_40 (by decide) dX8_at_55 rfl rfl ?_
        refine x_aload_n (q := 59) dX8_at_58 rfl rfl ?_
        refine c_get (q := 62) (k := 0) (f := 9) hM rfl xclX8 fwX8_68 (by decide) dX8_at_59 rfl rfl ?_
        refine x_iload_n (q := 63) dX8_at_62 rfl rfl ?_
        refine x_topi (y := nI n.toNat) (iI_nat (by omega)) ?_
        refine c_iald (q := 64) (k := 11) (n := 8) hM rfl (by decide) (by decide) dX8_at_63 rfl hl8 ?_
        refine x_topi (y := nI (rowAt rs n.toNat).1) (by exact hr4.1) ?_
        refine x_aload_n (q := 65) dX8_at_64 rfl rfl ?_
        refine c_get (q := 68) (k := 0) (f := 10) hM rfl xclX8 fwX8_72 (by decide) dX8_at_65 rfl rfl ?_
        refine x_iload_n (q := 69) dX8_at_68 rfl rfl ?_
        refine x_topi (y := nI n.toNat) (iI_nat (by omega)) ?_
        refine c_iald (q := 70) (k := 12) (n := 8) hM rfl (by decide) (by decide) dX8_at_69 rfl hl8 ?_
        refine x_topi (y := nI (rowAt rs n.toNat).2.1) (by exact hr4.2.1) ?_
        refine x_aload_n (q := 71) dX8_at_70 rfl rfl ?_
        refine c_get (q := 74) (k := 0) (f := 11) hM rfl xclX8 fwX8_75 (by decide) dX8_at_71 rfl rfl ?_
        refine x_iload_n (q := 75) dX8_at_74 rfl rfl ?_
        refine x_topi (y := nI n.toNat) (iI_nat (by omega)) ?_
        refine c_iald (q := 76) (k := 13) (n := 8) hM rfl (by decide) (by decide) dX8_at_75 rfl hl8 ?_
        refine x_topi (y := nI (rowAt rs n.toNat).2.2) (by exact hr4.2.2.1) ?_
        refine c_call (q := 79) (k := 5) (As := [_, _, _]) hM rfl imX5_aim ivX5_aim ilX5_aim mwX8_162 xciX5 dX8_at_76 rfl rfl rfl (Nat.le_of_ble_eq_true rfl) ?_
        refine (b_aim G l ad F R (d + 3) σ4 5 (.inl rfl) c hJ.1 hok hJ.2.2.2.1.2.fz _ _ _ hrow).mono (fun x9 σ76 hp => ?_)
        obtain ⟨rfl, r1, r2⟩ := hp
        intro M N S hM
        show xX G l _ (d + 7) _ _ _ _ M N S
        have J1 := hJ.of_kp r1 (by decide)
        refine x_aload_n (q := 80) dX8_at_79 rfl rfl ?_
        refine c_get (q := 83) (k := 0) (f := 4) hM rfl xclX8 fwX8_40 (by decide) dX8_at_80 rfl rfl ?_
        refine x_iload_n (q := 84) dX8_at_83 rfl rfl ?_
        refine x_topi (y := nI k.toNat) (iI_nat (by omega)) ?_
        refine x_iload_n (q := 85) dX8_at_84 rfl rfl ?_
        refine x_topi (y := nI p.toNat) (iI_nat (by omega)) ?_
        refine c_call (q := 88) (k := 5) (As := [_, _]) hM rfl imX5_put ivX5_put ilX5_put mwX8_166 xciX5 dX8_at_85 rfl rfl rfl (Nat.le_of_ble_eq_true rfl) ?_
        refine (b_put G l ad F R (d + 4) σ76 5 (.inl rfl) c J1.1 hok J1.2.2.2.1.2.fz k.toNat p.toNat hk3 hp4).mono (fun x9 σ85 hp => ?_)
        obtain ⟨rfl, s1, s2, s3, s4⟩ := hp
        intro M N S hM
        show xX G l _ (d + 7) _ _ _ _ M N S
        have J2 := J1.of_kp s1 (by decide)
        have hPb := r2.put s1 s2 s3
        refine x_aload_n (q := 89) dX8_at_88 rfl rfl ?_
        refine c_get (q := 92) (k := 0) (f := 4) hM rfl xclX8 fwX8_40 (by decide) dX8_at_89 rfl rfl ?_
        refine x_aload_n (q := 93) dX8_at_92 rfl rfl ?_
        refine c_get (q := 96) (k := 0) (f := 7) hM rfl xclX8 fwX8_57 (by decide) dX8_at_93 rfl rfl ?_
        refine c_get (q := 99) (k := 8) (f := 0) hM rfl xclX6 fwX8_170 (by decide) dX8_at_96 rfl rfl ?_
        refine c_call (q := 102) (k := 5) (As := [_]) hM rfl imX5_measure ivX5_measure ilX5_measure mwX8_173 xciX5 dX8_at_99 rfl rfl rfl (Nat.le_of_ble_eq_true rfl) ?_
        refine (b_measure G l ad F R (d + 1) σ85 5 (.inl rfl) 171 (by decide) (by decide) c J2.1 hok hfo J2.2.2.2.1.2 _ _ _ k.toNat p.toNat _ _ _ _ hrow hPb ⟨by rw [s2, mu_n (by decide), mu_s], by rw [s2, mu_s], s4⟩ hk3 hp4 (lfP_sm hok hrow) (gnP_le hok hrow)).mono (fun x9 σ99 hp => ?_)
        obtain ⟨rfl, t1, t2⟩ := hp
        intro M N S hM
        show xX G l _ (d + 7) _ _ _ _ M N S
        have J3 := J2.of_kp t1 (by decide)
        refine x_aload_n (q := 103) dX8_at_102 rfl rfl ?_
        refine c_get (q := 106) (k := 0) (f := 4) hM rfl xclX8 fwX8_40 (by decide) dX8_at_103 rfl rfl ?_
        refine x_aload_n (q := 107) dX8_at_106 rfl rfl ?_
        refine c_get (q := 110) (k := 0) (f := 7) hM rfl xclX8 fwX8_57 (by decide) dX8_at_107 rfl rfl ?_
        refine c_get (q := 113) (k := 8) (f := 1) hM rfl xclX6 fwX8_177 (by decide) dX8_at_110 rfl rfl ?_
        refine c_call (q := 116) (k := 5) (As := [_]) hM rfl imX5_under ivX5_under ilX5_under mwX8_180 xciX5 dX8_at_113 rfl rfl rfl (Nat.le_of_ble_eq_true rfl) ?_
        refine (b_under G l ad F R (d + 2) σ99 5 (.inl rfl) 172 ⟨by decide, by decide⟩ (by decide) _ _ J3.2.2.2.1.2.2.2.2.2.2.1 (by rw [t1 5 (by decide)]; exact hPb.2.2.1) (whP_le hok hrow) hbd).mono (fun x9 σ113 hp => ?_)
        obtain ⟨rfl, v1, v2⟩ := hp
        intro M N S hM
        show xX G l _ (d + 7) _ _ _ _ M N S
        have J4 := J3.of_kp v1 (by decide)
        refine x_aload_n (q := 117) dX8_at_116 rfl rfl ?_
        refine c_get (q := 120) (k := 0) (f := 7) hM rfl xclX8 fwX8_57 (by decide) dX8_at_117 rfl rfl ?_
        refine c_call (q := 123) (k := 8) (As := []) hM rfl imX6_reduce ivX6_reduce ilX6_reduce mwX8_183 xciX6 dX8_at_120 rfl rfl rfl (Nat.le_of_ble_eq_true rfl) ?_
        refine (b_reduce G l ad F R (d + 1) σ113 (atU c (rowAt rs n.toNat) k.toNat p.toNat) (atL c (rowAt rs n.toNat)) (v1.bg (by decide) (by decide) t2) v2 hbU hbL J4.2.2.2.2.2.1).mono (fun x9 σ120 hp => ?_)
        obtain ⟨rfl, u1, u2, u4, u5⟩ := hp
        intro M N S hM
        show xX G l _ (d + 7) _ _ _ _ M N S
        have J5 := J4.div u1 (by decide) u2
        refine x_aload_n (q := 124) dX8_at_123 rfl rfl ?_
        refine x_lload (q := 126) dX8_at_124 rfl rfl ?_
        refine c_putl (q := 129) (k := 0) (f := 13) hM rfl rfl xclX8 fwX8_84 (by decide) rfl rfl (Nat.le_of_ble_eq_true rfl) dX8_at_126 rfl rfl rfl (fun M σ126 a126 e126 b126 hM => ?_)
        refine x_aload_n (q := 130) dX8_at_129 rfl rfl ?_
        refine c_get (q := 133) (k := 0) (f := 7) hM rfl xclX8 fwX8_57 (by decide) dX8_at_130 rfl rfl ?_
        refine x_iload (q := 135) dX8_at_133 rfl rfl ?_
        refine c_call (q := 138) (k := 8) (As := [_]) hM rfl imX6_part ivX6_part ilX6_part mwX8_186 xciX6 dX8_at_135 rfl rfl rfl (Nat.le_of_ble_eq_true rfl) ?_
        refine (b_part G l ad F R (d + 5) σ126 q _ _ (by omega) hq2 (a126.bg (by decide) (by decide) u4) (a126.bg (by decide) (by decide) u5)).mono (fun x9 σ9' hp => ?_)
        obtain ⟨rfl, e9⟩ := hp
        intro M N S hM
        rw [e9] at hM; clear e9 σ9'
        show xX G l _ (d + 7) _ _ _ _ M N S
        exact x_lret rfl dX8_at_138 (c_ret hM ⟨by rw [show cAt c rs n k p q = tellv q (rcU (atU c (rowAt rs n.toNat) k.toNat p.toNat) (atL c (rowAt rs n.toNat))) (rcL (atU c (rowAt rs n.toNat) k.toNat p.toNat) (atL c (rowAt rs n.toNat))) from if_pos ⟨hAn, hPl⟩]; rfl, J5.key a126 b126.1 |>.ci (Tl.key a126 (by rw [e126, mu_s]; rfl) (by omega) (by omega) hKv u4 u5)⟩)
    · refine x_iload (q := 28) dX8_at_26 rfl rfl ?_
      refine x_callS (q := 31) (As := [_]) imX8_refusal isX8_refusal mwX8_158 dX8_at_28 rfl rfl rfl (Nat.le_of_ble_eq_true rfl) ?_
      refine (b_refusal G l (d + 6) M N S q hq1 hq2).mono (fun x9 M9 N9 S9 hp => ?_)
      obtain ⟨rfl, rfl, rfl, rfl⟩ := hp
      show xX G l _ (d + 7) _ _ _ _ _ _ _
      exact x_lret rfl dX8_at_31 (c_ret hM ⟨by rw [show cAt c rs n k p q = iL (refP q) from if_neg (fun z => absurd z.2 (by rw [bI_eq.mp hc23]; decide))], hJ.ci hT⟩)

end XE3
