section XE4
theorem aS_v0 {f : Nat → Nat → Int} {Lf : Nat → Nat} (v0 : Int) : ∀ n, aS f Lf v0 (n + 1) = aS f Lf 0 (n + 1)
  | 0 => rfl
  | n + 1 => by show (_, if (n + 1) % 5 = 0 then (aS f Lf v0 (n + 1)).2 else _) = _; rw [aS_v0 v0 n]; rfl
theorem aS_v2 {f : Nat → Nat → Int} {Lf : Nat → Nat} (v0 : Int) (n : Nat) : (aS f Lf v0 n).2 = (aS f Lf 0 n).2 := by
  cases n with
  | zero => rfl
  | succ n => rw [aS_v0]
theorem aS_acc {f : Nat → Nat → Int} {Lf : Nat → Nat} {m : Nat} (hf : ∀ k q, k < m → q ≤ 4 → (f k q).natAbs < B9 ^ 39) (hL : ∀ k, k < m → Lf k ≤ 12) : ∀ n, n ≤ 5 * m → (aS f Lf 0 n).1.natAbs < B9 ^ 39 ∧ acc2 (aS f Lf 0 n).2 (4 * (n / 5) + (n % 5 - 1)) := by
  intro n
  induction n with
  | zero => exact fun _ => ⟨by show (0 : Int).natAbs < _; rw [Int.natAbs_zero]; exact B9_pos _, by show (0 : Int).natAbs < _; rw [Int.natAbs_zero]; exact B9_pos _, by show (0 : Int).natAbs < _; rw [Int.natAbs_zero]; exact B9_pos _, by show (1 : Int).natAbs < B9 ^ 1; decide⟩
  | succ n ih =>
    intro hn
    have h1 := ih (by omega)
    have h2 := hf (n / 5) (n % 5) (by omega) (by omega)
    refine ⟨h2, ?_⟩
    show acc2 (if n % 5 = 0 then _ else _) _
    split
    · rename_i h0
      obtain ⟨a1, a2, a3⟩ := h1.2
      exact ⟨B9up a1 (by clear a1 a2 a3 h2; omega), B9up a2 (by clear a1 a2 a3 h2; omega), B9up a3 (by clear a1 a2 a3 h2; omega)⟩
    · rename_i h0
      have h9 := hL (n / 5) (by clear h2; omega)
      have h3 := h1.2.jn (s := ((Lf (n / 5) : Nat) : Int)) h1.1 h2 (Nat.lt_of_le_of_lt (show ((Lf (n / 5) : Nat) : Int).natAbs ≤ 12 by rw [Int.natAbs_natCast]; exact h9) (by decide))
      obtain ⟨a1, a2, a3⟩ := h3
      exact ⟨B9up a1 (by clear a1 a2 a3 h2; omega), B9up a2 (by clear a1 a2 a3 h2; omega), B9up a3 (by clear a1 a2 a3 h2; omega)⟩
theorem ar_lt {c : mCf} (hok : okL c) (hfo : frOk c) {r : Nat × Nat × Nat} (hr : okRow c r) {τ : Int} (hτ : τ = 1 ∨ τ = -1) : (arU c r τ).natAbs < B9 ^ 1000 ∧ (arL c r τ).natAbs < B9 ^ 1000 := by
  have hm := hok.1
  have h := aS_acc (f := fun k' q' => atU c r k' q' * τ) (Lf := c.L) (m := c.m) (fun k q hk hq => by
    have h1 := at_lt hok hfo hr hk hq
    show (atU c r k q * τ).natAbs < _
    rw [show (atU c r k q * τ).natAbs = (atU c r k q).natAbs by rcases hτ with rfl | rfl <;> omega]
    exact h1) (fun k hk => (hok.2 k (by omega)).1.2) (5 * c.m) (Nat.le_refl _)
  obtain ⟨-, a1, a2, a3⟩ := h
  have e1 : 41 + 2 * (4 * (5 * c.m / 5) + (5 * c.m % 5 - 1)) ≤ 65 := by clear a1 a2 a3; omega
  have e2 : 41 * (4 * (5 * c.m / 5) + (5 * c.m % 5 - 1)) + 120 ≤ 612 := by clear a1 a2 a3; omega
  have e3 : 41 * (4 * (5 * c.m / 5) + (5 * c.m % 5 - 1)) + 1 ≤ 493 := by clear a1 a2 a3; omega
  have b1 := B9up a1 e1
  have b2 := B9up a2 e2
  have b3 := B9up a3 e3
  exact ⟨B9up (B9a (B9up (B9m b1 b3) (show 65 + 493 ≤ 612 by decide)) b2) (by decide), B9up (B9m (B9m (atL_lt hok hfo hr) b3) (show (8 : Int).natAbs < B9 ^ 1 by decide)) (by decide)⟩
def cAr (c : mCf) (rs : List (Nat × Nat × Nat)) (n a q : Int) : Int64 := if isAn c rs n q = true ∧ (a = 1 ∨ a = -1) then tellv q (rcU (arU c (rowAt rs n.toNat) a) (arL c (rowAt rs n.toNat) a)) (rcL (arU c (rowAt rs n.toNat) a) (arL c (rowAt rs n.toNat) a)) else iL (refP q)
/-- the areas' own step -/
theorem Cj.ars {ks : List Nat} {σ σ' : cZ} {c : mCf} {t : List Nat} {rs : List (Nat × Nat × Nat)} (h : Cj σ c t rs) (k : kp ks σ σ') (hn : ∀ j ∈ ks, j = 5 ∨ j = 9 ∨ (34 ≤ j ∧ j < 40) ∨ (156 ≤ j ∧ j < 180) ∨ (256 ≤ j ∧ j < 280)) (hd : DvOk σ' 9) (hv : ∃ v, Bg σ' 163 v ∧ v.natAbs < B9 ^ 39) : Cj σ' c t rs := by
  obtain ⟨a, b, e, ⟨f1, f2⟩, g, i, -⟩ := h
  refine ⟨bmk' a k (fun j hj => by have := hn j hj; omega), b.of_kp k (fun z => by have := hn _ z; omega) (fun z => by have := hn _ z; omega), e.of_kp k (fun j hj => by have := hn j hj; omega), ⟨?_, f2.of_kp k (fun j hj => by have := hn j hj; omega)⟩, hd, i.of_kp k (fun z => by have := hn _ z; omega), hv⟩
  rw [k 4 (fun z => by have := hn _ z; omega)]; exact f1

set_option maxRecDepth 100000 in
set_option maxHeartbeats 4000000 in
theorem b_area (G : xG) (l : Launch) (ad : Nat → Nat) (F : xM) (R : Nat × Nat) (d : Nat) (σ : cZ) (c : mCf) (t : List Nat) (rs : List (Nat × Nat × Nat)) (hok : okL c) (hfo : frOk c) (hC : Ci σ c t rs) (n a q : Int) (hn1 : -2147483648 ≤ n) (hn2 : n < 2147483648) (ha1 : -2147483648 ≤ a) (ha2 : a < 2147483648) (hq1 : -2147483648 ≤ q) (hq2 : q < 2147483648) : cC G l ad F R YX8_area (d + 7) [.ref (ad 0), .int (iI n), .int (iI a), .int (iI q)] σ (fun r σ' => r = some (.long (cAr c rs n a q)) ∧ Ci σ' c t rs) := by
  have hm := hok.1
  have hC0 := hC
  obtain ⟨hc, ht, hr, hF, -⟩ := hC
  have h8 := hr.1
  have rest : ∀ (σ4 : cZ) (key0 b : Int) (M : xM) (N S : Nat), Cj σ4 c t rs → (σ4 0).2.1 13 = iL key0 → -1 ≤ key0 → key0 < 100000000000 → (key0 = -1 ∨ ∃ u v, Kv c rs key0 u v ∧ Bg σ4 171 (rcU u v) ∧ Bg σ4 172 (rcL u v)) → isAn c rs n q = true → (a = 1 ∨ a = -1) → b = (if 0 < a then 1 else 0) → cA G ad F R σ4 M N S → xX G l YX8_area (d + 7) (cQ G ad F R (fun r σ' => r = some (.long (cAr c rs n a q)) ∧ Ci σ' c t rs)) 52 [(0, .ref (ad 0)), (1, .int (iI n)), (2, .int (iI a)), (3, .int (iI q)), (4, .long (iL (200 + n * 2 + b)))] [] M N S := by
    intro σ4 key0 b M N S hJ tk1 tk2 tk3 tk4 hAn ha hb hM
    have hA := of_decide_eq_true hAn
    have hb2 : 0 ≤ b ∧ b ≤ 1 := by rw [hb]; split <;> omega
    have hr4 := hJ.2.2.1.2.2 n.toNat (by omega)
    have hl8 : n.toNat < 8 := by omega
    have hrow : okRow c (rowAt rs n.toNat) := hr4.2.2.2
    have hkb : 200 ≤ 200 + n * 2 + b ∧ 200 + n * 2 + b < 1000 := by omega
    have hKv : Kv c rs (200 + n * 2 + b) (arU c (rowAt rs n.toNat) a) (arL c (rowAt rs n.toNat) a) := .inr (.inl ⟨n.toNat, a, by omega, ha, by rw [hb]; omega, rfl, rfl⟩)
    obtain ⟨hbU, hbL⟩ := ar_lt hok hfo hrow ha
    have hT : Tl σ4 c rs := ⟨key0, tk1, tk2, tk3, tk4⟩
    obtain ⟨v0, hv0, bv0⟩ := hJ.2.2.2.2.2.2

    refine x_lload (q := 54) dX8_area_52 rfl rfl ?_
    refine x_aload_n (q := 55) dX8_area_54 rfl rfl ?_
    refine c_get (q := 58) (k := 0) (f := 13) hM rfl xclX8 fwX8_84 (by decide) dX8_area_55 rfl rfl ?_
    refine x_topl (y := iL key0) (by exact tk1) ?_
    refine xi_lcmp_eq (q1 := 59) (q := 62) 120 dX8_area_58 rfl dX8_area_59 (by decide) rfl rfl rfl (by omega) (by omega) (by omega) (by omega) (fun hc58 => ?_) (fun hc58 => ?_)
    · obtain ⟨u9, v9, kv9, bu9, bv9⟩ := tk4.resolve_left (by clear hbU hbL bv0; omega)
      obtain ⟨eu9, ev9⟩ : u9 = arU c (rowAt rs n.toNat) a ∧ v9 = arL c (rowAt rs n.toNat) a := by
        clear hbU hbL bv0
        rcases kv9 with ⟨n', k', p', z1, z2, z3, z4, z5, z6⟩ | ⟨n', τ', z1, z2, z3, z4, z5⟩ | ⟨n', a', b', z1, z2, z3, z4, z5, z6⟩
        · exfalso; omega
        · have y0 : n' = n.toNat ∧ τ' = a := by
            rcases ha with rfl | rfl <;> rcases z2 with rfl | rfl <;> simp at hb z3 <;> omega
          rw [y0.1, y0.2] at z4 z5; exact ⟨z4, z5⟩
        · exfalso; omega
      rw [eu9, ev9] at bu9 bv9
      refine x_aload_n (q := 121) dX8_area_120 rfl rfl ?_
      refine c_get (q := 124) (k := 0) (f := 7) hM rfl xclX8 fwX8_57 (by decide) dX8_area_121 rfl rfl ?_
      refine x_iload_n (q := 125) dX8_area_124 rfl rfl ?_
      refine c_call (q := 128) (k := 8) (As := [_]) hM rfl imX6_part ivX6_part ilX6_part mwX8_186 xciX6 dX8_area_125 rfl rfl rfl (Nat.le_of_ble_eq_true rfl) ?_
      refine (b_part G l ad F R (d + 5) σ4 q _ _ (by omega) hq2 bu9 bv9).mono (fun x9 σ9' hp => ?_)
      obtain ⟨rfl, e9⟩ := hp
      intro M N S hM
      rw [e9] at hM; clear e9 σ9'
      show xX G l _ (d + 7) _ _ _ _ M N S
      exact x_lret rfl dX8_area_128 (c_ret hM ⟨by rw [show cAr c rs n a q = tellv q (rcU (arU c (rowAt rs n.toNat) a) (arL c (rowAt rs n.toNat) a)) (rcL (arU c (rowAt rs n.toNat) a) (arL c (rowAt rs n.toNat) a)) from if_pos ⟨hAn, ha⟩], hJ.ci hT⟩)
    · refine x_aload_n (q := 63) dX8_area_62 rfl rfl ?_
      refine c_get (q := 66) (k := 0) (f := 4) hM rfl xclX8 fwX8_40 (by decide) dX8_area_63 rfl rfl ?_
      refine x_aload_n (q := 67) dX8_area_66 rfl rfl ?_
      refine c_get (q := 70) (k := 0) (f := 9) hM rfl xclX8 fwX8_68 (by decide) dX8_area_67 rfl rfl ?_
      refine x_iload_n (q := 71) dX8_area_70 rfl rfl ?_
      refine x_topi (y := nI n.toNat) (iI_nat (by omega)) ?_
      refine c_iald (q := 72) (k := 11) (n := 8) hM rfl (by decide) (by decide) dX8_area_71 rfl hl8 ?_
      refine x_topi (y := nI (rowAt rs n.toNat).1) (by exact hr4.1) ?_
      refine x_aload_n (q := 73) dX8_area_72 rfl rfl ?_
      refine c_get (q := 76) (k := 0) (f := 10) hM rfl xclX8 fwX8_72 (by decide) dX8_area_73 rfl rfl ?_
      refine x_iload_n (q := 77) dX8_area_76 rfl rfl ?_
      refine x_topi (y := nI n.toNat) (iI_nat (by omega)) ?_
      refine c_iald (q := 78) (k := 12) (n := 8) hM rfl (by decide) (by decide) dX8_area_77 rfl hl8 ?_
      refine x_topi (y := nI (rowAt rs n.toNat).2.1) (by exact hr4.2.1) ?_
      refine x_aload_n (q := 79) dX8_area_78 rfl rfl ?_
      refine c_get (q := 82) (k := 0) (f := 11) hM rfl xclX8 fwX8_75 (by decide) dX8_area_79 rfl rfl ?_
      refine x_iload_n (q := 83) dX8_area_82 rfl rfl ?_
      refine x_topi (y := nI n.toNat) (iI_nat (by omega)) ?_
      refine c_iald (q := 84) (k := 13) (n := 8) hM rfl (by decide) (by decide) dX8_area_83 rfl hl8 ?_
      refine x_topi (y := nI (rowAt rs n.toNat).2.2) (by exact hr4.2.2.1) ?_
      refine c_call (q := 87) (k := 5) (As := [_, _, _]) hM rfl imX5_aim ivX5_aim ilX5_aim mwX8_162 xciX5 dX8_area_84 rfl rfl rfl (Nat.le_of_ble_eq_true rfl) ?_
      refine (b_aim G l ad F R (d + 3) σ4 5 (.inl rfl) c hJ.1 hok hJ.2.2.2.1.2.fz _ _ _ hrow).mono (fun x9 σ84 hp => ?_)
      obtain ⟨rfl, r1, r2⟩ := hp
      intro M N S hM
      show xX G l _ (d + 7) _ _ _ _ M N S
      have J1 := hJ.of_kp r1 (by decide)
      refine x_aload_n (q := 88) dX8_area_87 rfl rfl ?_
      refine c_get (q := 91) (k := 0) (f := 6) hM rfl xclX8 fwX8_50 (by decide) dX8_area_88 rfl rfl ?_
      refine x_aload_n (q := 92) dX8_area_91 rfl rfl ?_
      refine c_get (q := 95) (k := 0) (f := 4) hM rfl xclX8 fwX8_40 (by decide) dX8_area_92 rfl rfl ?_
      refine x_aload_n (q := 96) dX8_area_95 rfl rfl ?_
      refine c_get (q := 99) (k := 0) (f := 0) hM rfl xclX8 fwX8_10 (by decide) dX8_area_96 rfl rfl ?_
      refine x_iload_n (q := 100) dX8_area_99 rfl rfl ?_
      refine x_aload_n (q := 101) dX8_area_100 rfl rfl ?_
      refine c_get (q := 104) (k := 0) (f := 7) hM rfl xclX8 fwX8_57 (by decide) dX8_area_101 rfl rfl ?_
      refine c_call (q := 107) (k := 7) (As := [_, _, _, _]) hM rfl imX0_measure ivX0_measure ilX0_measure mwX8_191 xciX0 dX8_area_104 rfl rfl rfl (Nat.le_of_ble_eq_true rfl) ?_
      refine (b_areas G l ad F R (d + 0) σ84 c J1.1 hok hfo J1.2.2.2.1.2 _ _ _ _ _ _ _ hrow r2 (lfP_sm hok hrow) (gnP_le hok hrow) (whP_le hok hrow) a ha v0 (r1.bg (by decide) (by decide) hv0) bv0 J1.2.2.2.2.1).mono (fun x9 σ104 hp => ?_)
      obtain ⟨rfl, s1, s2, s3, s4, s5⟩ := hp
      intro M N S hM
      show xX G l _ (d + 7) _ _ _ _ M N S
      have J2 := J1.ars s1 (by decide) s2 s3
      rw [aS_v2] at s4 s5
      refine x_aload_n (q := 108) dX8_area_107 rfl rfl ?_
      refine c_get (q := 111) (k := 0) (f := 7) hM rfl xclX8 fwX8_57 (by decide) dX8_area_108 rfl rfl ?_
      refine c_call (q := 114) (k := 8) (As := []) hM rfl imX6_reduce ivX6_reduce ilX6_reduce mwX8_183 xciX6 dX8_area_111 rfl rfl rfl (Nat.le_of_ble_eq_true rfl) ?_
      refine (b_reduce G l ad F R (d + 1) σ104 (arU c (rowAt rs n.toNat) a) (arL c (rowAt rs n.toNat) a) s4 s5 hbU hbL J2.2.2.2.2.2.1).mono (fun x9 σ111 hp => ?_)
      obtain ⟨rfl, u1, u2, u4, u5⟩ := hp
      intro M N S hM
      show xX G l _ (d + 7) _ _ _ _ M N S
      have J5 := J2.div u1 (by decide) u2
      refine x_aload_n (q := 115) dX8_area_114 rfl rfl ?_
      refine x_lload (q := 117) dX8_area_115 rfl rfl ?_
      refine c_putl (q := 120) (k := 0) (f := 13) hM rfl rfl xclX8 fwX8_84 (by decide) rfl rfl (Nat.le_of_ble_eq_true rfl) dX8_area_117 rfl rfl rfl (fun M σ117 a117 e117 b117 hM => ?_)
      refine x_aload_n (q := 121) dX8_area_120 rfl rfl ?_
      refine c_get (q := 124) (k := 0) (f := 7) hM rfl xclX8 fwX8_57 (by decide) dX8_area_121 rfl rfl ?_
      refine x_iload_n (q := 125) dX8_area_124 rfl rfl ?_
      refine c_call (q := 128) (k := 8) (As := [_]) hM rfl imX6_part ivX6_part ilX6_part mwX8_186 xciX6 dX8_area_125 rfl rfl rfl (Nat.le_of_ble_eq_true rfl) ?_
      refine (b_part G l ad F R (d + 5) σ117 q _ _ (by omega) hq2 (a117.bg (by decide) (by decide) u4) (a117.bg (by decide) (by decide) u5)).mono (fun x9 σ9' hp => ?_)
      obtain ⟨rfl, e9⟩ := hp
      intro M N S hM
      rw [e9] at hM; clear e9 σ9'
      show xX G l _ (d + 7) _ _ _ _ M N S
      exact x_lret rfl dX8_area_128 (c_ret hM ⟨by rw [show cAr c rs n a q = tellv q (rcU (arU c (rowAt rs n.toNat) a) (arL c (rowAt rs n.toNat) a)) (rcL (arU c (rowAt rs n.toNat) a) (arL c (rowAt rs n.toNat) a)) from if_pos ⟨hAn, ha⟩]; rfl, J5.key a117 b117.1 |>.ci (Tl.key a117 (by rw [e117, mu_s]) (by omega) (by omega) hKv u4 u5)⟩)

  refine cC.of (ls := [(0, .ref (ad 0)), (1, .int (iI n)), (2, .int (iI a)), (3, .int (iI q))]) (by decide) (Nat.le_of_ble_eq_true rfl) rfl fun M N S hM => ?_

  refine x_aload_n (q := 1) dX8_area_0 rfl rfl ?_
  refine c_get (q := 4) (k := 0) (f := 3) hM rfl xclX8 fwX8_31 (by decide) dX8_area_1 rfl rfl ?_
  refine c_call (q := 7) (k := 4) (As := []) hM rfl imX4_prepare ivX4_prepare ilX4_prepare mwX8_136 xciX4 dX8_area_4 rfl rfl rfl (Nat.le_of_ble_eq_true rfl) ?_
  refine (b_prepare G l ad F R d σ c hc hok hfo hF).mono (fun x9 σ4 hp => ?_)
  obtain ⟨rfl, q1, q2, q3⟩ := hp
  intro M N S hM
  show xX G l _ (d + 7) _ _ _ _ M N S
  obtain ⟨hJ, hT⟩ := hC0.prep q1 q2 q3
  obtain ⟨key0, tk1, tk2, tk3, tk4⟩ := hT
  have hT : Tl σ4 c rs := ⟨key0, tk1, tk2, tk3, tk4⟩
  refine x_aload_n (q := 8) dX8_area_7 rfl rfl ?_
  refine x_iload_n (q := 9) dX8_area_8 rfl rfl ?_
  refine x_iload_n (q := 10) dX8_area_9 rfl rfl ?_
  refine c_call (q := 13) (k := 0) (As := [_, _]) hM rfl imX8_isAnswered ivX8_isAnswered ilX8_isAnswered mwX8_151 xciX8 dX8_area_10 rfl rfl rfl (Nat.le_of_ble_eq_true rfl) ?_
  refine (b_isAnswered G l ad F R (d + 4) σ4 c hJ.1 rs hJ.2.2.1 (slC c) hJ.2.2.2.1.2.2.2.2.2.2.2 n q hn1 hn2 hq1 hq2).mono (fun x9 σ9' hp => ?_)
  obtain ⟨rfl, e9⟩ := hp
  intro M N S hM
  rw [e9] at hM; clear e9 σ9'
  show xX G l _ (d + 7) _ _ _ _ M N S
  refine x_if_eq (q := 16) 26 dX8_area_13 (by decide) rfl (fun hc13 => ?_) (fun hc13 => ?_)
  · refine x_iload_n (q := 27) dX8_area_26 rfl rfl ?_
    refine x_callS (q := 30) (As := [_]) imX8_refusal isX8_refusal mwX8_158 dX8_area_27 rfl rfl rfl (Nat.le_of_ble_eq_true rfl) ?_
    refine (b_refusal G l (d + 6) M N S q hq1 hq2).mono (fun x9 M9 N9 S9 hp => ?_)
    obtain ⟨rfl, rfl, rfl, rfl⟩ := hp
    show xX G l _ (d + 7) _ _ _ _ _ _ _
    exact x_lret rfl dX8_area_30 (c_ret hM ⟨by rw [show cAr c rs n a q = iL (refP q) from if_neg (fun z => absurd z.1 (by rw [show isAn c rs n q = false from bI_eq.mp hc13]; decide))], hJ.ci hT⟩)
  · refine x_iload_n (q := 17) dX8_area_16 rfl rfl ?_
    refine x_iconst (q := 18) (iI (1)) dX8_area_17 rfl (by decide) ?_
    refine xi_icmp_eq (q := 21) 31 dX8_area_18 (by decide) rfl rfl rfl (by omega) (by omega) (by omega) (by omega) (fun hc18 => ?_) (fun hc18 => ?_)
    · have hA := of_decide_eq_true (show isAn c rs n q = true from bI_ne.mp hc13)
      refine xn_ldc2 (q := 34) 200 dX8_area_31 rfl cwX8_189 ?_
      refine x_iload_n (q := 35) dX8_area_34 rfl rfl ?_
      refine x_iconst (q := 36) (iI (2)) dX8_area_35 rfl (by decide) ?_
      refine xi_imul (q := 37) dX8_area_36 rfl rfl rfl ?_
      refine xi_i2l (q := 38) dX8_area_37 rfl rfl (by omega) (by omega) ?_
      refine xi_ladd (q := 39) dX8_area_38 rfl (lN_i' _) rfl ?_
      refine x_iload_n (q := 40) dX8_area_39 rfl rfl ?_
      refine xi_if_le (q := 43) 47 dX8_area_40 (by decide) rfl rfl (by omega) (by omega) (fun hc40 => ?_) (fun hc40 => ?_)
      · refine xn_iconst (q := 48) 0 dX8_area_47 rfl (by decide) ?_
        refine xn_i2l (q := 49) dX8_area_48 rfl (by omega) ?_
        refine xi_ladd (q := 50) dX8_area_49 rfl rfl (lN_i' _) ?_
        refine x_lstore (q := 52) (ls' := [(0, _), (1, _), (2, _), (3, _), (4, _)]) [1, 2, 3, 4, 0] dX8_area_50 rfl (by decide) rfl ?_
        exact rest σ4 key0 0 M N S hJ tk1 tk2 tk3 tk4 (bI_ne.mp hc13) (by omega) (by rw [if_neg (by omega)]) hM
      · refine xn_iconst (q := 44) 1 dX8_area_43 rfl (by decide) ?_
        refine x_goto 48 dX8_area_44 (by decide) ?_
        refine xn_i2l (q := 49) dX8_area_48 rfl (by omega) ?_
        refine xi_ladd (q := 50) dX8_area_49 rfl rfl (lN_i' _) ?_
        refine x_lstore (q := 52) (ls' := [(0, _), (1, _), (2, _), (3, _), (4, _)]) [1, 2, 3, 4, 0] dX8_area_50 rfl (by decide) rfl ?_
        exact rest σ4 key0 1 M N S hJ tk1 tk2 tk3 tk4 (bI_ne.mp hc13) (by omega) (by rw [if_pos (by omega)]) hM
    · refine x_iload_n (q := 22) dX8_area_21 rfl rfl ?_
      refine x_iconst (q := 23) (iI (-1)) dX8_area_22 rfl (by decide) ?_
      refine xi_icmp_eq (q := 26) 31 dX8_area_23 (by decide) rfl rfl rfl (by omega) (by omega) (by omega) (by omega) (fun hc23 => ?_) (fun hc23 => ?_)
      · have hA := of_decide_eq_true (show isAn c rs n q = true from bI_ne.mp hc13)
        refine xn_ldc2 (q := 34) 200 dX8_area_31 rfl cwX8_189 ?_
        refine x_iload_n (q := 35) dX8_area_34 rfl rfl ?_
        refine x_iconst (q := 36) (iI (2)) dX8_area_35 rfl (by decide) ?_
        refine xi_imul (q := 37) dX8_area_36 rfl rfl rfl ?_
        refine xi_i2l (q := 38) dX8_area_37 rfl rfl (by omega) (by omega) ?_
        refine xi_ladd (q := 39) dX8_area_38 rfl (lN_i' _) rfl ?_
        refine x_iload_n (q := 40) dX8_area_39 rfl rfl ?_
        refine xi_if_le (q := 43) 47 dX8_area_40 (by decide) rfl rfl (by omega) (by omega) (fun hc40 => ?_) (fun hc40 => ?_)
        · refine xn_iconst (q := 48) 0 dX8_area_47 rfl (by decide) ?_
          refine xn_i2l (q := 49) dX8_area_48 rfl (by omega) ?_
          refine xi_ladd (q := 50) dX8_area_49 rfl rfl (lN_i' _) ?_
          refine x_lstore (q := 52) (ls' := [(0, _), (1, _), (2, _), (3, _), (4, _)]) [1, 2, 3, 4, 0] dX8_area_50 rfl (by decide) rfl ?_
          exact rest σ4 key0 0 M N S hJ tk1 tk2 tk3 tk4 (bI_ne.mp hc13) (by omega) (by rw [if_neg (by omega)]) hM
        · refine xn_iconst (q := 44) 1 dX8_area_43 rfl (by decide) ?_
          refine x_goto 48 dX8_area_44 (by decide) ?_
          refine xn_i2l (q := 49) dX8_area_48 rfl (by omega) ?_
          refine xi_ladd (q := 50) dX8_area_49 rfl rfl (lN_i' _) ?_
          refine x_lstore (q := 52) (ls' := [(0, _), (1, _), (2, _), (3, _), (4, _)]) [1, 2, 3, 4, 0] dX8_area_50 rfl (by decide) rfl ?_
          exact rest σ4 key0 1 M N S hJ tk1 tk2 tk3 tk4 (bI_ne.mp hc13) (by omega) (by rw [if_pos (by omega)]) hM
      · refine x_iload_n (q := 27) dX8_area_26 rfl rfl ?_
        refine x_callS (q := 30) (As := [_]) imX8_refusal isX8_refusal mwX8_158 dX8_area_27 rfl rfl rfl (Nat.le_of_ble_eq_true rfl) ?_
        refine (b_refusal G l (d + 6) M N S q hq1 hq2).mono (fun x9 M9 N9 S9 hp => ?_)
        obtain ⟨rfl, rfl, rfl, rfl⟩ := hp
        show xX G l _ (d + 7) _ _ _ _ _ _ _
        exact x_lret rfl dX8_area_30 (c_ret hM ⟨by rw [show cAr c rs n a q = iL (refP q) from if_neg (fun z => by omega)], hJ.ci hT⟩)

end XE4
