section XW5
/-- both hold this row of beams -/
def LJ (G : xG) (ad : Nat → Nat) (o ob : Nat) (as : Nat → Nat) (R : Nat × Nat) (z : mT) (M : xM) (N S : Nat) : Prop := ∃ (σ : cZ) (τ : mS) (f : Nat → Int64), LV G ad o ob as R σ τ f M N S ∧ CZ σ z ∧ RR τ z ∧ seI z.1
abbrev lsL (b : Nat) (ad : Nat → Nat) (o ob i : Nat) : List (Nat × Value) := [(0, .ref b), (1, .ref (ad 0)), (2, .ref o), (3, .ref ob), (4, .int (nI i))]
def lQ : xPost := fun r _ _ _ => r = some (.int 1)
def lg2 (a b : Int) : Int64 := ((iI a).toInt64 <<< ((nI 32).toInt64 &&& 63)) ||| ((iI b).toInt64 &&& 4294967295)
def lgZ (a b : Int) : Int := (lg2 a b).toInt
theorem lg_eq (a b : Int) : lg2 a b = iL (lgZ a b) := iL_self _
theorem lg_1 (a b : Int) : -9223372036854775808 ≤ lgZ a b := by have := Int64.le_toInt (lg2 a b); unfold lgZ; omega
theorem lg_2 (a b : Int) : lgZ a b < 9223372036854775808 := by have := Int64.toInt_lt (lg2 a b); unfold lgZ; omega
theorem and15 (x : Int32) : ∃ k, k < 16 ∧ x &&& nI 15 = nI k := by
  refine ⟨x.toBitVec.toNat % 16, Nat.mod_lt _ (by decide), ?_⟩
  apply Int32.toBitVec_inj.mp
  apply BitVec.eq_of_toNat_eq
  rw [Int32.toBitVec_and, BitVec.toNat_and, show (nI 15).toBitVec.toNat = 2 ^ 4 - 1 from rfl, Nat.and_two_pow_sub_one_eq_mod]
  show _ = x.toBitVec.toNat % 16 % 2 ^ 32
  rw [Nat.mod_eq_of_lt (a := x.toBitVec.toNat % 16) (by omega)]
theorem x_less {G : xG} {l : Launch} {Y : xY} {d : Nat} {Q : xPost} {pc : Nat} {ls ls' : List (Nat × Value)} {st : List Value} {M : xM} {N S : Nat} (h : ∀ q ∈ ls', q ∈ ls) (k : xX G l Y d Q pc ls' st M N S) : xX G l Y d Q pc ls st M N S :=
  fun p e R s m args below meth c H locs lsA hF hH => k p e R s m args below meth c H locs lsA hF ⟨⟨hH.1.1, hH.1.2.1, fun q hq => hH.1.2.2 q (h q hq)⟩, hH.2⟩
section
variable {G : xG} {l : Launch} {ad : Nat → Nat} {o ob : Nat} {as : Nat → Nat} {R : Nat × Nat} {z : mT} {M : xM} {N S b L i : Nat} {ys : Nat → Int}
set_option maxRecDepth 100000 in
set_option maxHeartbeats 4000000 in
theorem lc_unit (hs : rArr G "SCRIPT" b L (fun j => iI (ys j))) (hL : L ≤ 3584) (hy : ∀ j, -2147483648 ≤ ys j ∧ ys j < 2147483648) (hi : i + 7 ≤ L) (h : LJ G ad o ob as R z M N S) (next : ∀ R' z' M' N' S', LJ G ad o ob as R' z' M' N' S' → R'.1 ≤ R.1 + 1 → R'.2 ≤ R.2 + 6 → xX G l YL_law 21 lQ 970 (lsL b ad o ob i) [] M' N' S') : xX G l YL_law 21 lQ 116 (lsL b ad o ob i) [] M N S := by
  obtain ⟨σ, τ, f, hv, hz, hr, hse⟩ := h
  have ok := hr.1.1.1
  refine x_aload_n (q := 117) dL_law_116 rfl rfl ?_
  refine x_aload_n (q := 118) dL_law_117 rfl rfl ?_
  refine x_iload (q := 120) dL_law_118 rfl rfl ?_
  refine xn_iconst (q := 121) 1 dL_law_120 rfl (by decide) ?_
  refine xn_iadd (q := 122) dL_law_121 rfl ?_
  refine x_sld (q := 123) hs dL_law_122 rfl (by omega) hL ?_
  refine l_callC (As := [.int (iI (ys (i + 1)))]) (rest := []) (q := 126) hv rfl imX8_unit ivX8_unit ilX8_unit mwL_26 dL_law_123 rfl (rfl) rfl (Nat.le_of_ble_eq_true rfl) (w_unit G l ad _ R 19 σ z hz (ys (i + 1)) (hy _).1 (hy _).2) (fun r9 σ9 M9 N9 S9 h9 hp => ?_)
  obtain ⟨rfl, hz9⟩ := hp
  refine x_aload_n (q := 127) dL_law_126 rfl rfl ?_
  refine x_aload_n (q := 128) dL_law_127 rfl rfl ?_
  refine x_iload (q := 130) dL_law_128 rfl rfl ?_
  refine xn_iconst (q := 131) 1 dL_law_130 rfl (by decide) ?_
  refine xn_iadd (q := 132) dL_law_131 rfl ?_
  refine x_sld (q := 133) hs dL_law_132 rfl (by omega) hL ?_
  refine l_callM (As := [.int (iI (ys (i + 1)))]) (rest := [_]) (q := 136) h9 rfl imX9_unit ivX9_unit ilX9_unit mwL_30 dL_law_133 rfl (rfl) rfl (Nat.le_of_ble_eq_true rfl) (c_unit G l o as M9 N9 S9 19 τ z hr (ys (i + 1)) (hy _).1 (hy _).2) (fun r8 τ8 M8 h8 hp => ?_)
  obtain ⟨rfl, hr8⟩ := hp
  exact x_icmp_eq (q := 139) 970 dL_law_136 (by decide) rfl (fun _ => next R _ _ _ _ ⟨σ9, τ8, f, h8, hz9, hr8, hse⟩ (by omega) (by omega)) (fun hne => absurd rfl hne)
set_option maxRecDepth 100000 in
set_option maxHeartbeats 4000000 in
theorem lc_read (hs : rArr G "SCRIPT" b L (fun j => iI (ys j))) (hL : L ≤ 3584) (hy : ∀ j, -2147483648 ≤ ys j ∧ ys j < 2147483648) (hi : i + 7 ≤ L) (h : LJ G ad o ob as R z M N S) (next : ∀ R' z' M' N' S', LJ G ad o ob as R' z' M' N' S' → R'.1 ≤ R.1 + 1 → R'.2 ≤ R.2 + 6 → xX G l YL_law 21 lQ 970 (lsL b ad o ob i) [] M' N' S') : xX G l YL_law 21 lQ 141 (lsL b ad o ob i) [] M N S := by
  obtain ⟨σ, τ, f, hv, hz, hr, hse⟩ := h
  have ok := hr.1.1.1
  refine x_aload_n (q := 142) dL_law_141 rfl rfl ?_
  refine l_callC (As := []) (rest := []) (q := 145) hv rfl imX8_read ivX8_read ilX8_read mwL_31 dL_law_142 rfl (rfl) rfl (Nat.le_of_ble_eq_true rfl) (w_read G l ad _ R 16 σ z hz) (fun r9 σ9 M9 N9 S9 h9 hp => ?_)
  obtain ⟨rfl, hz9⟩ := hp
  refine x_aload_n (q := 146) dL_law_145 rfl rfl ?_
  refine l_callM (As := []) (rest := [_]) (q := 149) h9 rfl imX9_read ivX9_read ilX9_read mwL_35 dL_law_146 rfl (rfl) rfl (Nat.le_of_ble_eq_true rfl) (c_read G l o as M9 N9 S9 17 τ z hr) (fun r8 τ8 M8 h8 hp => ?_)
  obtain ⟨rfl, hr8⟩ := hp
  exact x_icmp_eq (q := 152) 970 dL_law_149 (by decide) rfl (fun _ => next R _ _ _ _ ⟨σ9, τ8, f, h8, hz9, hr8, seI_r hse⟩ (by omega) (by omega)) (fun hne => absurd rfl hne)
set_option maxRecDepth 100000 in
set_option maxHeartbeats 4000000 in
theorem lc_solve (hs : rArr G "SCRIPT" b L (fun j => iI (ys j))) (hL : L ≤ 3584) (hy : ∀ j, -2147483648 ≤ ys j ∧ ys j < 2147483648) (hi : i + 7 ≤ L) (h : LJ G ad o ob as R z M N S) (next : ∀ R' z' M' N' S', LJ G ad o ob as R' z' M' N' S' → R'.1 ≤ R.1 + 1 → R'.2 ≤ R.2 + 6 → xX G l YL_law 21 lQ 970 (lsL b ad o ob i) [] M' N' S') : xX G l YL_law 21 lQ 511 (lsL b ad o ob i) [] M N S := by
  obtain ⟨σ, τ, f, hv, hz, hr, hse⟩ := h
  have ok := hr.1.1.1
  refine x_aload_n (q := 512) dL_law_511 rfl rfl ?_
  refine l_callC (As := []) (rest := []) (q := 515) hv rfl imX8_solve ivX8_solve ilX8_solve mwL_54 dL_law_512 rfl (rfl) rfl (Nat.le_of_ble_eq_true rfl) (w_solve G l ad _ R 13 σ z hz ok.l ok.1) (fun r9 σ9 M9 N9 S9 h9 hp => ?_)
  obtain ⟨rfl, hz9⟩ := hp
  refine x_aload_n (q := 516) dL_law_515 rfl rfl ?_
  refine l_callM (As := []) (rest := [_]) (q := 519) h9 rfl imX9_solve ivX9_solve ilX9_solve mwL_57 dL_law_516 rfl (rfl) rfl (Nat.le_of_ble_eq_true rfl) (c_solve G l o as M9 N9 S9 14 τ z hr (slvOk_all ok)) (fun r8 τ8 M8 h8 hp => ?_)
  obtain ⟨rfl, hr8⟩ := hp
  exact x_icmp_eq (q := 522) 970 dL_law_519 (by decide) rfl (fun _ => next R _ _ _ _ ⟨σ9, τ8, f, h8, hz9, hr8, hse⟩ (by omega) (by omega)) (fun hne => absurd rfl hne)
set_option maxRecDepth 100000 in
set_option maxHeartbeats 4000000 in
theorem lc_loose (hs : rArr G "SCRIPT" b L (fun j => iI (ys j))) (hL : L ≤ 3584) (hy : ∀ j, -2147483648 ≤ ys j ∧ ys j < 2147483648) (hi : i + 7 ≤ L) (h : LJ G ad o ob as R z M N S) (next : ∀ R' z' M' N' S', LJ G ad o ob as R' z' M' N' S' → R'.1 ≤ R.1 + 1 → R'.2 ≤ R.2 + 6 → xX G l YL_law 21 lQ 970 (lsL b ad o ob i) [] M' N' S') : xX G l YL_law 21 lQ 524 (lsL b ad o ob i) [] M N S := by
  obtain ⟨σ, τ, f, hv, hz, hr, hse⟩ := h
  have ok := hr.1.1.1
  refine x_aload_n (q := 525) dL_law_524 rfl rfl ?_
  refine x_aload_n (q := 526) dL_law_525 rfl rfl ?_
  refine x_iload (q := 528) dL_law_526 rfl rfl ?_
  refine xn_iconst (q := 529) 1 dL_law_528 rfl (by decide) ?_
  refine xn_iadd (q := 530) dL_law_529 rfl ?_
  refine x_sld (q := 531) hs dL_law_530 rfl (by omega) hL ?_
  refine l_callC (As := [.int (iI (ys (i + 1)))]) (rest := []) (q := 534) hv rfl imX8_loose ivX8_loose ilX8_loose mwL_58 dL_law_531 rfl (rfl) rfl (Nat.le_of_ble_eq_true rfl) (w_loose G l ad _ R 13 σ z hz ok.l ok.1 (ys (i + 1)) (hy _).1 (hy _).2) (fun r9 σ9 M9 N9 S9 h9 hp => ?_)
  obtain ⟨rfl, hz9⟩ := hp
  refine x_aload_n (q := 535) dL_law_534 rfl rfl ?_
  refine x_aload_n (q := 536) dL_law_535 rfl rfl ?_
  refine x_iload (q := 538) dL_law_536 rfl rfl ?_
  refine xn_iconst (q := 539) 1 dL_law_538 rfl (by decide) ?_
  refine xn_iadd (q := 540) dL_law_539 rfl ?_
  refine x_sld (q := 541) hs dL_law_540 rfl (by omega) hL ?_
  refine l_callM (As := [.int (iI (ys (i + 1)))]) (rest := [_]) (q := 544) h9 rfl imX9_loose ivX9_loose ilX9_loose mwL_62 dL_law_541 rfl (rfl) rfl (Nat.le_of_ble_eq_true rfl) (c_loose G l o as M9 N9 S9 14 τ z hr (slvOk_all ok) (ys (i + 1)) (hy _).1 (hy _).2) (fun r8 τ8 M8 h8 hp => ?_)
  obtain ⟨rfl, hr8⟩ := hp
  exact x_icmp_eq (q := 547) 970 dL_law_544 (by decide) rfl (fun _ => next R _ _ _ _ ⟨σ9, τ8, f, h8, hz9, hr8, hse⟩ (by omega) (by omega)) (fun hne => absurd rfl hne)
set_option maxRecDepth 100000 in
set_option maxHeartbeats 4000000 in
theorem lc_row (hs : rArr G "SCRIPT" b L (fun j => iI (ys j))) (hL : L ≤ 3584) (hy : ∀ j, -2147483648 ≤ ys j ∧ ys j < 2147483648) (hi : i + 7 ≤ L) (h : LJ G ad o ob as R z M N S) (next : ∀ R' z' M' N' S', LJ G ad o ob as R' z' M' N' S' → R'.1 ≤ R.1 + 1 → R'.2 ≤ R.2 + 6 → xX G l YL_law 21 lQ 970 (lsL b ad o ob i) [] M' N' S') : xX G l YL_law 21 lQ 549 (lsL b ad o ob i) [] M N S := by
  obtain ⟨σ, τ, f, hv, hz, hr, hse⟩ := h
  have ok := hr.1.1.1
  refine x_aload_n (q := 550) dL_law_549 rfl rfl ?_
  refine x_aload_n (q := 551) dL_law_550 rfl rfl ?_
  refine x_iload (q := 553) dL_law_551 rfl rfl ?_
  refine xn_iconst (q := 554) 1 dL_law_553 rfl (by decide) ?_
  refine xn_iadd (q := 555) dL_law_554 rfl ?_
  refine x_sld (q := 556) hs dL_law_555 rfl (by omega) hL ?_
  refine x_aload_n (q := 557) dL_law_556 rfl rfl ?_
  refine x_iload (q := 559) dL_law_557 rfl rfl ?_
  refine xn_iconst (q := 560) 2 dL_law_559 rfl (by decide) ?_
  refine xn_iadd (q := 561) dL_law_560 rfl ?_
  refine x_sld (q := 562) hs dL_law_561 rfl (by omega) hL ?_
  refine x_aload_n (q := 563) dL_law_562 rfl rfl ?_
  refine x_iload (q := 565) dL_law_563 rfl rfl ?_
  refine xn_iconst (q := 566) 3 dL_law_565 rfl (by decide) ?_
  refine xn_iadd (q := 567) dL_law_566 rfl ?_
  refine x_sld (q := 568) hs dL_law_567 rfl (by omega) hL ?_
  refine l_callC (As := [.int (iI (ys (i + 1))), .int (iI (ys (i + 2))), .int (iI (ys (i + 3)))]) (rest := []) (q := 571) hv rfl imX8_row ivX8_row ilX8_row mwL_63 dL_law_568 rfl (rfl) rfl (Nat.le_of_ble_eq_true rfl) (w_row G l ad _ R 17 σ z hz (ys (i + 1)) (ys (i + 2)) (ys (i + 3)) (hy _).1 (hy _).2 (hy _).1 (hy _).2 (hy _).1 (hy _).2) (fun r9 σ9 M9 N9 S9 h9 hp => ?_)
  obtain ⟨rfl, hz9⟩ := hp
  refine x_aload_n (q := 572) dL_law_571 rfl rfl ?_
  refine x_aload_n (q := 573) dL_law_572 rfl rfl ?_
  refine x_iload (q := 575) dL_law_573 rfl rfl ?_
  refine xn_iconst (q := 576) 1 dL_law_575 rfl (by decide) ?_
  refine xn_iadd (q := 577) dL_law_576 rfl ?_
  refine x_sld (q := 578) hs dL_law_577 rfl (by omega) hL ?_
  refine x_aload_n (q := 579) dL_law_578 rfl rfl ?_
  refine x_iload (q := 581) dL_law_579 rfl rfl ?_
  refine xn_iconst (q := 582) 2 dL_law_581 rfl (by decide) ?_
  refine xn_iadd (q := 583) dL_law_582 rfl ?_
  refine x_sld (q := 584) hs dL_law_583 rfl (by omega) hL ?_
  refine x_aload_n (q := 585) dL_law_584 rfl rfl ?_
  refine x_iload (q := 587) dL_law_585 rfl rfl ?_
  refine xn_iconst (q := 588) 3 dL_law_587 rfl (by decide) ?_
  refine xn_iadd (q := 589) dL_law_588 rfl ?_
  refine x_sld (q := 590) hs dL_law_589 rfl (by omega) hL ?_
  refine l_callM (As := [.int (iI (ys (i + 1))), .int (iI (ys (i + 2))), .int (iI (ys (i + 3)))]) (rest := [_]) (q := 593) h9 rfl imX9_row ivX9_row ilX9_row mwL_67 dL_law_590 rfl (rfl) rfl (Nat.le_of_ble_eq_true rfl) (c_row G l o as M9 N9 S9 19 τ z hr (ys (i + 1)) (ys (i + 2)) (ys (i + 3)) (hy _).1 (hy _).2 (hy _).1 (hy _).2 (hy _).1 (hy _).2) (fun r8 τ8 M8 h8 hp => ?_)
  obtain ⟨rfl, hr8⟩ := hp
  exact x_icmp_eq (q := 596) 970 dL_law_593 (by decide) rfl (fun _ => next R _ _ _ _ ⟨σ9, τ8, f, h8, hz9, hr8, seI_w hse _ _ _⟩ (by omega) (by omega)) (fun hne => absurd rfl hne)
set_option maxRecDepth 100000 in
set_option maxHeartbeats 4000000 in
theorem lc_at (hs : rArr G "SCRIPT" b L (fun j => iI (ys j))) (hL : L ≤ 3584) (hy : ∀ j, -2147483648 ≤ ys j ∧ ys j < 2147483648) (hi : i + 7 ≤ L) (h : LJ G ad o ob as R z M N S) (next : ∀ R' z' M' N' S', LJ G ad o ob as R' z' M' N' S' → R'.1 ≤ R.1 + 1 → R'.2 ≤ R.2 + 6 → xX G l YL_law 21 lQ 970 (lsL b ad o ob i) [] M' N' S') : xX G l YL_law 21 lQ 598 (lsL b ad o ob i) [] M N S := by
  obtain ⟨σ, τ, f, hv, hz, hr, hse⟩ := h
  have ok := hr.1.1.1
  refine x_aload_n (q := 599) dL_law_598 rfl rfl ?_
  refine x_aload_n (q := 600) dL_law_599 rfl rfl ?_
  refine x_iload (q := 602) dL_law_600 rfl rfl ?_
  refine xn_iconst (q := 603) 1 dL_law_602 rfl (by decide) ?_
  refine xn_iadd (q := 604) dL_law_603 rfl ?_
  refine x_sld (q := 605) hs dL_law_604 rfl (by omega) hL ?_
  refine x_aload_n (q := 606) dL_law_605 rfl rfl ?_
  refine x_iload (q := 608) dL_law_606 rfl rfl ?_
  refine xn_iconst (q := 609) 2 dL_law_608 rfl (by decide) ?_
  refine xn_iadd (q := 610) dL_law_609 rfl ?_
  refine x_sld (q := 611) hs dL_law_610 rfl (by omega) hL ?_
  refine x_aload_n (q := 612) dL_law_611 rfl rfl ?_
  refine x_iload (q := 614) dL_law_612 rfl rfl ?_
  refine xn_iconst (q := 615) 3 dL_law_614 rfl (by decide) ?_
  refine xn_iadd (q := 616) dL_law_615 rfl ?_
  refine x_sld (q := 617) hs dL_law_616 rfl (by omega) hL ?_
  refine x_aload_n (q := 618) dL_law_617 rfl rfl ?_
  refine x_iload (q := 620) dL_law_618 rfl rfl ?_
  refine xn_iconst (q := 621) 4 dL_law_620 rfl (by decide) ?_
  refine xn_iadd (q := 622) dL_law_621 rfl ?_
  refine x_sld (q := 623) hs dL_law_622 rfl (by omega) hL ?_
  refine l_callC (As := [.int (iI (ys (i + 1))), .int (iI (ys (i + 2))), .int (iI (ys (i + 3))), .int (iI (ys (i + 4)))]) (rest := []) (q := 626) hv rfl imX8_at ivX8_at ilX8_at mwL_68 dL_law_623 rfl (rfl) rfl (Nat.le_of_ble_eq_true rfl) (w_at G l ad _ R 13 σ z hz ok.l ok.1 (ys (i + 1)) (ys (i + 2)) (ys (i + 3)) (ys (i + 4)) (hy _).1 (hy _).2 (hy _).1 (hy _).2 (hy _).1 (hy _).2 (hy _).1 (hy _).2) (fun r9 σ9 M9 N9 S9 h9 hp => ?_)
  obtain ⟨rfl, hz9⟩ := hp
  refine x_aload_n (q := 627) dL_law_626 rfl rfl ?_
  refine x_aload_n (q := 628) dL_law_627 rfl rfl ?_
  refine x_iload (q := 630) dL_law_628 rfl rfl ?_
  refine xn_iconst (q := 631) 1 dL_law_630 rfl (by decide) ?_
  refine xn_iadd (q := 632) dL_law_631 rfl ?_
  refine x_sld (q := 633) hs dL_law_632 rfl (by omega) hL ?_
  refine x_aload_n (q := 634) dL_law_633 rfl rfl ?_
  refine x_iload (q := 636) dL_law_634 rfl rfl ?_
  refine xn_iconst (q := 637) 2 dL_law_636 rfl (by decide) ?_
  refine xn_iadd (q := 638) dL_law_637 rfl ?_
  refine x_sld (q := 639) hs dL_law_638 rfl (by omega) hL ?_
  refine x_aload_n (q := 640) dL_law_639 rfl rfl ?_
  refine x_iload (q := 642) dL_law_640 rfl rfl ?_
  refine xn_iconst (q := 643) 3 dL_law_642 rfl (by decide) ?_
  refine xn_iadd (q := 644) dL_law_643 rfl ?_
  refine x_sld (q := 645) hs dL_law_644 rfl (by omega) hL ?_
  refine x_aload_n (q := 646) dL_law_645 rfl rfl ?_
  refine x_iload (q := 648) dL_law_646 rfl rfl ?_
  refine xn_iconst (q := 649) 4 dL_law_648 rfl (by decide) ?_
  refine xn_iadd (q := 650) dL_law_649 rfl ?_
  refine x_sld (q := 651) hs dL_law_650 rfl (by omega) hL ?_
  refine l_callM (As := [.int (iI (ys (i + 1))), .int (iI (ys (i + 2))), .int (iI (ys (i + 3))), .int (iI (ys (i + 4)))]) (rest := [_]) (q := 654) h9 rfl imX9_at ivX9_at ilX9_at mwL_72 dL_law_651 rfl (rfl) rfl (Nat.le_of_ble_eq_true rfl) (c_at G l o as M9 N9 S9 13 τ z hr (slvOk_all ok) (ys (i + 1)) (ys (i + 2)) (ys (i + 3)) (ys (i + 4)) (hy _).1 (hy _).2 (hy _).1 (hy _).2 (hy _).1 (hy _).2 (hy _).1 (hy _).2) (fun r8 τ8 M8 h8 hp => ?_)
  obtain ⟨rfl, hr8⟩ := hp
  exact x_lcmp_eq (q1 := 655) (q := 658) 970 dL_law_654 rfl dL_law_655 (by decide) rfl (fun _ => next R _ _ _ _ ⟨σ9, τ8, f, h8, hz9, hr8, hse⟩ (by omega) (by omega)) (fun hne => absurd rfl hne)
set_option maxRecDepth 100000 in
set_option maxHeartbeats 4000000 in
theorem lc_area (hs : rArr G "SCRIPT" b L (fun j => iI (ys j))) (hL : L ≤ 3584) (hy : ∀ j, -2147483648 ≤ ys j ∧ ys j < 2147483648) (hi : i + 7 ≤ L) (h : LJ G ad o ob as R z M N S) (next : ∀ R' z' M' N' S', LJ G ad o ob as R' z' M' N' S' → R'.1 ≤ R.1 + 1 → R'.2 ≤ R.2 + 6 → xX G l YL_law 21 lQ 970 (lsL b ad o ob i) [] M' N' S') : xX G l YL_law 21 lQ 660 (lsL b ad o ob i) [] M N S := by
  obtain ⟨σ, τ, f, hv, hz, hr, hse⟩ := h
  have ok := hr.1.1.1
  refine x_aload_n (q := 661) dL_law_660 rfl rfl ?_
  refine x_aload_n (q := 662) dL_law_661 rfl rfl ?_
  refine x_iload (q := 664) dL_law_662 rfl rfl ?_
  refine xn_iconst (q := 665) 1 dL_law_664 rfl (by decide) ?_
  refine xn_iadd (q := 666) dL_law_665 rfl ?_
  refine x_sld (q := 667) hs dL_law_666 rfl (by omega) hL ?_
  refine x_aload_n (q := 668) dL_law_667 rfl rfl ?_
  refine x_iload (q := 670) dL_law_668 rfl rfl ?_
  refine xn_iconst (q := 671) 2 dL_law_670 rfl (by decide) ?_
  refine xn_iadd (q := 672) dL_law_671 rfl ?_
  refine x_sld (q := 673) hs dL_law_672 rfl (by omega) hL ?_
  refine x_aload_n (q := 674) dL_law_673 rfl rfl ?_
  refine x_iload (q := 676) dL_law_674 rfl rfl ?_
  refine xn_iconst (q := 677) 3 dL_law_676 rfl (by decide) ?_
  refine xn_iadd (q := 678) dL_law_677 rfl ?_
  refine x_sld (q := 679) hs dL_law_678 rfl (by omega) hL ?_
  refine l_callC (As := [.int (iI (ys (i + 1))), .int (iI (ys (i + 2))), .int (iI (ys (i + 3)))]) (rest := []) (q := 682) hv rfl imX8_area ivX8_area ilX8_area mwL_73 dL_law_679 rfl (rfl) rfl (Nat.le_of_ble_eq_true rfl) (w_area G l ad _ R 13 σ z hz ok.l ok.1 (ys (i + 1)) (ys (i + 2)) (ys (i + 3)) (hy _).1 (hy _).2 (hy _).1 (hy _).2 (hy _).1 (hy _).2) (fun r9 σ9 M9 N9 S9 h9 hp => ?_)
  obtain ⟨rfl, hz9⟩ := hp
  refine x_aload_n (q := 683) dL_law_682 rfl rfl ?_
  refine x_aload_n (q := 684) dL_law_683 rfl rfl ?_
  refine x_iload (q := 686) dL_law_684 rfl rfl ?_
  refine xn_iconst (q := 687) 1 dL_law_686 rfl (by decide) ?_
  refine xn_iadd (q := 688) dL_law_687 rfl ?_
  refine x_sld (q := 689) hs dL_law_688 rfl (by omega) hL ?_
  refine x_aload_n (q := 690) dL_law_689 rfl rfl ?_
  refine x_iload (q := 692) dL_law_690 rfl rfl ?_
  refine xn_iconst (q := 693) 2 dL_law_692 rfl (by decide) ?_
  refine xn_iadd (q := 694) dL_law_693 rfl ?_
  refine x_sld (q := 695) hs dL_law_694 rfl (by omega) hL ?_
  refine x_aload_n (q := 696) dL_law_695 rfl rfl ?_
  refine x_iload (q := 698) dL_law_696 rfl rfl ?_
  refine xn_iconst (q := 699) 3 dL_law_698 rfl (by decide) ?_
  refine xn_iadd (q := 700) dL_law_699 rfl ?_
  refine x_sld (q := 701) hs dL_law_700 rfl (by omega) hL ?_
  refine l_callM (As := [.int (iI (ys (i + 1))), .int (iI (ys (i + 2))), .int (iI (ys (i + 3)))]) (rest := [_]) (q := 704) h9 rfl imX9_area ivX9_area ilX9_area mwL_77 dL_law_701 rfl (rfl) rfl (Nat.le_of_ble_eq_true rfl) (c_area G l o as M9 N9 S9 13 τ z hr (slvOk_all ok) (valOk_all ok) (ys (i + 1)) (ys (i + 2)) (ys (i + 3)) (hy _).1 (hy _).2 (hy _).1 (hy _).2 (hy _).1 (hy _).2) (fun r8 τ8 M8 h8 hp => ?_)
  obtain ⟨rfl, hr8⟩ := hp
  exact x_lcmp_eq (q1 := 705) (q := 708) 970 dL_law_704 rfl dL_law_705 (by decide) rfl (fun _ => next R _ _ _ _ ⟨σ9, τ8, f, h8, hz9, hr8, hse⟩ (by omega) (by omega)) (fun hne => absurd rfl hne)
set_option maxRecDepth 100000 in
set_option maxHeartbeats 4000000 in
theorem lc_turned (hs : rArr G "SCRIPT" b L (fun j => iI (ys j))) (hL : L ≤ 3584) (hy : ∀ j, -2147483648 ≤ ys j ∧ ys j < 2147483648) (hi : i + 7 ≤ L) (h : LJ G ad o ob as R z M N S) (next : ∀ R' z' M' N' S', LJ G ad o ob as R' z' M' N' S' → R'.1 ≤ R.1 + 1 → R'.2 ≤ R.2 + 6 → xX G l YL_law 21 lQ 970 (lsL b ad o ob i) [] M' N' S') : xX G l YL_law 21 lQ 710 (lsL b ad o ob i) [] M N S := by
  obtain ⟨σ, τ, f, hv, hz, hr, hse⟩ := h
  have ok := hr.1.1.1
  refine x_aload_n (q := 711) dL_law_710 rfl rfl ?_
  refine x_aload_n (q := 712) dL_law_711 rfl rfl ?_
  refine x_iload (q := 714) dL_law_712 rfl rfl ?_
  refine xn_iconst (q := 715) 1 dL_law_714 rfl (by decide) ?_
  refine xn_iadd (q := 716) dL_law_715 rfl ?_
  refine x_sld (q := 717) hs dL_law_716 rfl (by omega) hL ?_
  refine l_callC (As := [.int (iI (ys (i + 1)))]) (rest := []) (q := 720) hv rfl imX8_turned ivX8_turned ilX8_turned mwL_78 dL_law_717 rfl (rfl) rfl (Nat.le_of_ble_eq_true rfl) (w_turned G l ad _ R 13 σ z hz ok.l ok.1 (ys (i + 1)) (hy _).1 (hy _).2) (fun r9 σ9 M9 N9 S9 h9 hp => ?_)
  obtain ⟨rfl, hz9⟩ := hp
  refine x_aload_n (q := 721) dL_law_720 rfl rfl ?_
  refine x_aload_n (q := 722) dL_law_721 rfl rfl ?_
  refine x_iload (q := 724) dL_law_722 rfl rfl ?_
  refine xn_iconst (q := 725) 1 dL_law_724 rfl (by decide) ?_
  refine xn_iadd (q := 726) dL_law_725 rfl ?_
  refine x_sld (q := 727) hs dL_law_726 rfl (by omega) hL ?_
  refine l_callM (As := [.int (iI (ys (i + 1)))]) (rest := [_]) (q := 730) h9 rfl imX9_turned ivX9_turned ilX9_turned mwL_81 dL_law_727 rfl (rfl) rfl (Nat.le_of_ble_eq_true rfl) (c_turned G l o as M9 N9 S9 13 τ z hr (slvOk_all ok) (ys (i + 1)) (hy _).1 (hy _).2) (fun r8 τ8 M8 h8 hp => ?_)
  obtain ⟨rfl, hr8⟩ := hp
  exact x_icmp_eq (q := 733) 970 dL_law_730 (by decide) rfl (fun _ => next R _ _ _ _ ⟨σ9, τ8, f, h8, hz9, hr8, hse⟩ (by omega) (by omega)) (fun hne => absurd rfl hne)
set_option maxRecDepth 100000 in
set_option maxHeartbeats 4000000 in
theorem lc_sums (hs : rArr G "SCRIPT" b L (fun j => iI (ys j))) (hL : L ≤ 3584) (hy : ∀ j, -2147483648 ≤ ys j ∧ ys j < 2147483648) (hi : i + 7 ≤ L) (h : LJ G ad o ob as R z M N S) (next : ∀ R' z' M' N' S', LJ G ad o ob as R' z' M' N' S' → R'.1 ≤ R.1 + 1 → R'.2 ≤ R.2 + 6 → xX G l YL_law 21 lQ 970 (lsL b ad o ob i) [] M' N' S') : xX G l YL_law 21 lQ 735 (lsL b ad o ob i) [] M N S := by
  obtain ⟨σ, τ, f, hv, hz, hr, hse⟩ := h
  have ok := hr.1.1.1
  refine x_aload_n (q := 736) dL_law_735 rfl rfl ?_
  refine l_callC (As := []) (rest := []) (q := 739) hv rfl imX8_sums ivX8_sums ilX8_sums mwL_82 dL_law_736 rfl (rfl) rfl (Nat.le_of_ble_eq_true rfl) (w_sums G l ad _ R 13 σ z hz ok.l ok.1) (fun r9 σ9 M9 N9 S9 h9 hp => ?_)
  obtain ⟨rfl, hz9⟩ := hp
  refine x_aload_n (q := 740) dL_law_739 rfl rfl ?_
  refine l_callM (As := []) (rest := [_]) (q := 743) h9 rfl imX9_sums ivX9_sums ilX9_sums mwL_86 dL_law_740 rfl (rfl) rfl (Nat.le_of_ble_eq_true rfl) (c_sums G l o as M9 N9 S9 14 τ z hr (slvOk_all ok)) (fun r8 τ8 M8 h8 hp => ?_)
  obtain ⟨rfl, hr8⟩ := hp
  exact x_icmp_eq (q := 746) 970 dL_law_743 (by decide) rfl (fun _ => next R _ _ _ _ ⟨σ9, τ8, f, h8, hz9, hr8, hse⟩ (by omega) (by omega)) (fun hne => absurd rfl hne)
set_option maxRecDepth 100000 in
set_option maxHeartbeats 4000000 in
theorem lc_settled (hs : rArr G "SCRIPT" b L (fun j => iI (ys j))) (hL : L ≤ 3584) (hy : ∀ j, -2147483648 ≤ ys j ∧ ys j < 2147483648) (hi : i + 7 ≤ L) (h : LJ G ad o ob as R z M N S) (next : ∀ R' z' M' N' S', LJ G ad o ob as R' z' M' N' S' → R'.1 ≤ R.1 + 1 → R'.2 ≤ R.2 + 6 → xX G l YL_law 21 lQ 970 (lsL b ad o ob i) [] M' N' S') : xX G l YL_law 21 lQ 748 (lsL b ad o ob i) [] M N S := by
  obtain ⟨σ, τ, f, hv, hz, hr, hse⟩ := h
  have ok := hr.1.1.1
  refine x_aload_n (q := 749) dL_law_748 rfl rfl ?_
  refine x_aload_n (q := 750) dL_law_749 rfl rfl ?_
  refine x_iload (q := 752) dL_law_750 rfl rfl ?_
  refine xn_iconst (q := 753) 1 dL_law_752 rfl (by decide) ?_
  refine xn_iadd (q := 754) dL_law_753 rfl ?_
  refine x_sld (q := 755) hs dL_law_754 rfl (by omega) hL ?_
  refine x_aload_n (q := 756) dL_law_755 rfl rfl ?_
  refine x_iload (q := 758) dL_law_756 rfl rfl ?_
  refine xn_iconst (q := 759) 2 dL_law_758 rfl (by decide) ?_
  refine xn_iadd (q := 760) dL_law_759 rfl ?_
  refine x_sld (q := 761) hs dL_law_760 rfl (by omega) hL ?_
  refine x_i2l (q := 762) dL_law_761 rfl ?_
  refine xn_bipush (q := 764) 32 dL_law_762 rfl (by decide) ?_
  refine x_lshl (q := 765) dL_law_764 rfl ?_
  refine x_aload_n (q := 766) dL_law_765 rfl rfl ?_
  refine x_iload (q := 768) dL_law_766 rfl rfl ?_
  refine xn_iconst (q := 769) 3 dL_law_768 rfl (by decide) ?_
  refine xn_iadd (q := 770) dL_law_769 rfl ?_
  refine x_sld (q := 771) hs dL_law_770 rfl (by omega) hL ?_
  refine x_i2l (q := 772) dL_law_771 rfl ?_
  refine x_ldc2 (q := 775) 4294967295 dL_law_772 rfl cwL_36 ?_
  refine x_land (q := 776) dL_law_775 rfl ?_
  refine x_lor (q := 777) dL_law_776 rfl ?_
  refine l_callC (As := [.int (iI (ys (i + 1))), .long (iL (lgZ (ys (i + 2)) (ys (i + 3))))]) (rest := []) (q := 780) hv rfl imX8_settled ivX8_settled ilX8_settled mwL_87 dL_law_777 rfl (by rw [← lg_eq (ys (i + 2)) (ys (i + 3))]; rfl) rfl (Nat.le_of_ble_eq_true rfl) (w_settled G l ad _ R 18 σ z hz (ys (i + 1)) (lgZ (ys (i + 2)) (ys (i + 3))) (hy _).1 (hy _).2 (lg_1 _ _) (lg_2 _ _)) (fun r9 σ9 M9 N9 S9 h9 hp => ?_)
  obtain ⟨rfl, hz9⟩ := hp
  refine x_aload_n (q := 781) dL_law_780 rfl rfl ?_
  refine x_aload_n (q := 782) dL_law_781 rfl rfl ?_
  refine x_iload (q := 784) dL_law_782 rfl rfl ?_
  refine xn_iconst (q := 785) 1 dL_law_784 rfl (by decide) ?_
  refine xn_iadd (q := 786) dL_law_785 rfl ?_
  refine x_sld (q := 787) hs dL_law_786 rfl (by omega) hL ?_
  refine x_aload_n (q := 788) dL_law_787 rfl rfl ?_
  refine x_iload (q := 790) dL_law_788 rfl rfl ?_
  refine xn_iconst (q := 791) 2 dL_law_790 rfl (by decide) ?_
  refine xn_iadd (q := 792) dL_law_791 rfl ?_
  refine x_sld (q := 793) hs dL_law_792 rfl (by omega) hL ?_
  refine x_i2l (q := 794) dL_law_793 rfl ?_
  refine xn_bipush (q := 796) 32 dL_law_794 rfl (by decide) ?_
  refine x_lshl (q := 797) dL_law_796 rfl ?_
  refine x_aload_n (q := 798) dL_law_797 rfl rfl ?_
  refine x_iload (q := 800) dL_law_798 rfl rfl ?_
  refine xn_iconst (q := 801) 3 dL_law_800 rfl (by decide) ?_
  refine xn_iadd (q := 802) dL_law_801 rfl ?_
  refine x_sld (q := 803) hs dL_law_802 rfl (by omega) hL ?_
  refine x_i2l (q := 804) dL_law_803 rfl ?_
  refine x_ldc2 (q := 807) 4294967295 dL_law_804 rfl cwL_36 ?_
  refine x_land (q := 808) dL_law_807 rfl ?_
  refine x_lor (q := 809) dL_law_808 rfl ?_
  refine l_callM (As := [.int (iI (ys (i + 1))), .long (iL (lgZ (ys (i + 2)) (ys (i + 3))))]) (rest := [_]) (q := 812) h9 rfl imX9_settled ivX9_settled ilX9_settled mwL_91 dL_law_809 rfl (by rw [← lg_eq (ys (i + 2)) (ys (i + 3))]; rfl) rfl (Nat.le_of_ble_eq_true rfl) (c_settled G l o as M9 N9 S9 19 τ z hr (ys (i + 1)) (lgZ (ys (i + 2)) (ys (i + 3))) (hy _).1 (hy _).2 (lg_1 _ _) (lg_2 _ _)) (fun r8 τ8 M8 h8 hp => ?_)
  obtain ⟨rfl, hr8⟩ := hp
  exact x_icmp_eq (q := 815) 970 dL_law_812 (by decide) rfl (fun _ => next R _ _ _ _ ⟨σ9, τ8, f, h8, hz9, hr8, seI_t hse _ _⟩ (by omega) (by omega)) (fun hne => absurd rfl hne)
set_option maxRecDepth 100000 in
set_option maxHeartbeats 4000000 in
theorem lc_move (hs : rArr G "SCRIPT" b L (fun j => iI (ys j))) (hL : L ≤ 3584) (hy : ∀ j, -2147483648 ≤ ys j ∧ ys j < 2147483648) (hi : i + 7 ≤ L) (h : LJ G ad o ob as R z M N S) (next : ∀ R' z' M' N' S', LJ G ad o ob as R' z' M' N' S' → R'.1 ≤ R.1 + 1 → R'.2 ≤ R.2 + 6 → xX G l YL_law 21 lQ 970 (lsL b ad o ob i) [] M' N' S') : xX G l YL_law 21 lQ 817 (lsL b ad o ob i) [] M N S := by
  obtain ⟨σ, τ, f, hv, hz, hr, hse⟩ := h
  have ok := hr.1.1.1
  refine x_aload_n (q := 818) dL_law_817 rfl rfl ?_
  refine x_aload_n (q := 819) dL_law_818 rfl rfl ?_
  refine x_iload (q := 821) dL_law_819 rfl rfl ?_
  refine xn_iconst (q := 822) 1 dL_law_821 rfl (by decide) ?_
  refine xn_iadd (q := 823) dL_law_822 rfl ?_
  refine x_sld (q := 824) hs dL_law_823 rfl (by omega) hL ?_
  refine x_aload_n (q := 825) dL_law_824 rfl rfl ?_
  refine x_iload (q := 827) dL_law_825 rfl rfl ?_
  refine xn_iconst (q := 828) 2 dL_law_827 rfl (by decide) ?_
  refine xn_iadd (q := 829) dL_law_828 rfl ?_
  refine x_sld (q := 830) hs dL_law_829 rfl (by omega) hL ?_
  refine x_i2l (q := 831) dL_law_830 rfl ?_
  refine xn_bipush (q := 833) 32 dL_law_831 rfl (by decide) ?_
  refine x_lshl (q := 834) dL_law_833 rfl ?_
  refine x_aload_n (q := 835) dL_law_834 rfl rfl ?_
  refine x_iload (q := 837) dL_law_835 rfl rfl ?_
  refine xn_iconst (q := 838) 3 dL_law_837 rfl (by decide) ?_
  refine xn_iadd (q := 839) dL_law_838 rfl ?_
  refine x_sld (q := 840) hs dL_law_839 rfl (by omega) hL ?_
  refine x_i2l (q := 841) dL_law_840 rfl ?_
  refine x_ldc2 (q := 844) 4294967295 dL_law_841 rfl cwL_36 ?_
  refine x_land (q := 845) dL_law_844 rfl ?_
  refine x_lor (q := 846) dL_law_845 rfl ?_
  refine x_aload_n (q := 847) dL_law_846 rfl rfl ?_
  refine x_iload (q := 849) dL_law_847 rfl rfl ?_
  refine xn_iconst (q := 850) 4 dL_law_849 rfl (by decide) ?_
  refine xn_iadd (q := 851) dL_law_850 rfl ?_
  refine x_sld (q := 852) hs dL_law_851 rfl (by omega) hL ?_
  refine x_i2l (q := 853) dL_law_852 rfl ?_
  refine xn_bipush (q := 855) 32 dL_law_853 rfl (by decide) ?_
  refine x_lshl (q := 856) dL_law_855 rfl ?_
  refine x_aload_n (q := 857) dL_law_856 rfl rfl ?_
  refine x_iload (q := 859) dL_law_857 rfl rfl ?_
  refine xn_iconst (q := 860) 5 dL_law_859 rfl (by decide) ?_
  refine xn_iadd (q := 861) dL_law_860 rfl ?_
  refine x_sld (q := 862) hs dL_law_861 rfl (by omega) hL ?_
  refine x_i2l (q := 863) dL_law_862 rfl ?_
  refine x_ldc2 (q := 866) 4294967295 dL_law_863 rfl cwL_36 ?_
  refine x_land (q := 867) dL_law_866 rfl ?_
  refine x_lor (q := 868) dL_law_867 rfl ?_
  refine x_aload_n (q := 869) dL_law_868 rfl rfl ?_
  refine x_iload (q := 871) dL_law_869 rfl rfl ?_
  refine xn_bipush (q := 873) 6 dL_law_871 rfl (by decide) ?_
  refine xn_iadd (q := 874) dL_law_873 rfl ?_
  refine x_sld (q := 875) hs dL_law_874 rfl (by omega) hL ?_
  refine l_callC (As := [.int (iI (ys (i + 1))), .long (iL (lgZ (ys (i + 2)) (ys (i + 3)))), .long (iL (lgZ (ys (i + 4)) (ys (i + 5)))), .int (iI (ys (i + 6)))]) (rest := []) (q := 878) hv rfl imX8_move ivX8_move ilX8_move mwL_92 dL_law_875 rfl (by rw [← lg_eq (ys (i + 2)) (ys (i + 3)), ← lg_eq (ys (i + 4)) (ys (i + 5))]; rfl) rfl (Nat.le_of_ble_eq_true rfl) (w_move G l ad _ R 13 σ z hz ok (ys (i + 1)) (lgZ (ys (i + 2)) (ys (i + 3))) (lgZ (ys (i + 4)) (ys (i + 5))) (ys (i + 6)) (hy _).1 (hy _).2 (lg_1 _ _) (lg_2 _ _) (lg_1 _ _) (lg_2 _ _) (hy _).1 (hy _).2) (fun r9 σ9 M9 N9 S9 h9 hp => ?_)
  obtain ⟨rfl, hz9⟩ := hp
  refine x_aload_n (q := 879) dL_law_878 rfl rfl ?_
  refine x_aload_n (q := 880) dL_law_879 rfl rfl ?_
  refine x_iload (q := 882) dL_law_880 rfl rfl ?_
  refine xn_iconst (q := 883) 1 dL_law_882 rfl (by decide) ?_
  refine xn_iadd (q := 884) dL_law_883 rfl ?_
  refine x_sld (q := 885) hs dL_law_884 rfl (by omega) hL ?_
  refine x_aload_n (q := 886) dL_law_885 rfl rfl ?_
  refine x_iload (q := 888) dL_law_886 rfl rfl ?_
  refine xn_iconst (q := 889) 2 dL_law_888 rfl (by decide) ?_
  refine xn_iadd (q := 890) dL_law_889 rfl ?_
  refine x_sld (q := 891) hs dL_law_890 rfl (by omega) hL ?_
  refine x_i2l (q := 892) dL_law_891 rfl ?_
  refine xn_bipush (q := 894) 32 dL_law_892 rfl (by decide) ?_
  refine x_lshl (q := 895) dL_law_894 rfl ?_
  refine x_aload_n (q := 896) dL_law_895 rfl rfl ?_
  refine x_iload (q := 898) dL_law_896 rfl rfl ?_
  refine xn_iconst (q := 899) 3 dL_law_898 rfl (by decide) ?_
  refine xn_iadd (q := 900) dL_law_899 rfl ?_
  refine x_sld (q := 901) hs dL_law_900 rfl (by omega) hL ?_
  refine x_i2l (q := 902) dL_law_901 rfl ?_
  refine x_ldc2 (q := 905) 4294967295 dL_law_902 rfl cwL_36 ?_
  refine x_land (q := 906) dL_law_905 rfl ?_
  refine x_lor (q := 907) dL_law_906 rfl ?_
  refine x_aload_n (q := 908) dL_law_907 rfl rfl ?_
  refine x_iload (q := 910) dL_law_908 rfl rfl ?_
  refine xn_iconst (q := 911) 4 dL_law_910 rfl (by decide) ?_
  refine xn_iadd (q := 912) dL_law_911 rfl ?_
  refine x_sld (q := 913) hs dL_law_912 rfl (by omega) hL ?_
  refine x_i2l (q := 914) dL_law_913 rfl ?_
  refine xn_bipush (q := 916) 32 dL_law_914 rfl (by decide) ?_
  refine x_lshl (q := 917) dL_law_916 rfl ?_
  refine x_aload_n (q := 918) dL_law_917 rfl rfl ?_
  refine x_iload (q := 920) dL_law_918 rfl rfl ?_
  refine xn_iconst (q := 921) 5 dL_law_920 rfl (by decide) ?_
  refine xn_iadd (q := 922) dL_law_921 rfl ?_
  refine x_sld (q := 923) hs dL_law_922 rfl (by omega) hL ?_
  refine x_i2l (q := 924) dL_law_923 rfl ?_
  refine x_ldc2 (q := 927) 4294967295 dL_law_924 rfl cwL_36 ?_
  refine x_land (q := 928) dL_law_927 rfl ?_
  refine x_lor (q := 929) dL_law_928 rfl ?_
  refine x_aload_n (q := 930) dL_law_929 rfl rfl ?_
  refine x_iload (q := 932) dL_law_930 rfl rfl ?_
  refine xn_bipush (q := 934) 6 dL_law_932 rfl (by decide) ?_
  refine xn_iadd (q := 935) dL_law_934 rfl ?_
  refine x_sld (q := 936) hs dL_law_935 rfl (by omega) hL ?_
  refine l_callM (As := [.int (iI (ys (i + 1))), .long (iL (lgZ (ys (i + 2)) (ys (i + 3)))), .long (iL (lgZ (ys (i + 4)) (ys (i + 5)))), .int (iI (ys (i + 6)))]) (rest := [_]) (q := 939) h9 rfl imX9_move ivX9_move ilX9_move mwL_96 dL_law_936 rfl (by rw [← lg_eq (ys (i + 2)) (ys (i + 3)), ← lg_eq (ys (i + 4)) (ys (i + 5))]; rfl) rfl (Nat.le_of_ble_eq_true rfl) (c_move G l o as M9 N9 S9 14 τ z hr (slvOk_all ok) (ys (i + 1)) (lgZ (ys (i + 2)) (ys (i + 3))) (lgZ (ys (i + 4)) (ys (i + 5))) (ys (i + 6)) (hy _).1 (hy _).2 (lg_1 _ _) (lg_2 _ _) (lg_1 _ _) (lg_2 _ _) (hy _).1 (hy _).2) (fun r8 τ8 M8 h8 hp => ?_)
  obtain ⟨rfl, hr8⟩ := hp
  exact x_lcmp_eq (q1 := 940) (q := 943) 970 dL_law_939 rfl dL_law_940 (by decide) rfl (fun _ => next R _ _ _ _ ⟨σ9, τ8, f, h8, hz9, hr8, hse⟩ (by omega) (by omega)) (fun hne => absurd rfl hne)
set_option maxRecDepth 100000 in
set_option maxHeartbeats 4000000 in
theorem lc_count (hs : rArr G "SCRIPT" b L (fun j => iI (ys j))) (hL : L ≤ 3584) (hy : ∀ j, -2147483648 ≤ ys j ∧ ys j < 2147483648) (hi : i + 7 ≤ L) (h : LJ G ad o ob as R z M N S) (next : ∀ R' z' M' N' S', LJ G ad o ob as R' z' M' N' S' → R'.1 ≤ R.1 + 1 → R'.2 ≤ R.2 + 6 → xX G l YL_law 21 lQ 970 (lsL b ad o ob i) [] M' N' S') : xX G l YL_law 21 lQ 945 (lsL b ad o ob i) [] M N S := by
  obtain ⟨σ, τ, f, hv, hz, hr, hse⟩ := h
  have ok := hr.1.1.1
  refine x_aload_n (q := 946) dL_law_945 rfl rfl ?_
  refine x_aload_n (q := 947) dL_law_946 rfl rfl ?_
  refine x_iload (q := 949) dL_law_947 rfl rfl ?_
  refine xn_iconst (q := 950) 1 dL_law_949 rfl (by decide) ?_
  refine xn_iadd (q := 951) dL_law_950 rfl ?_
  refine x_sld (q := 952) hs dL_law_951 rfl (by omega) hL ?_
  refine l_callC (As := [.int (iI (ys (i + 1)))]) (rest := []) (q := 955) hv rfl imX8_count ivX8_count ilX8_count mwL_97 dL_law_952 rfl (rfl) rfl (Nat.le_of_ble_eq_true rfl) (w_count G l ad _ R 19 σ z hz ok.l (ys (i + 1)) (hy _).1 (hy _).2) (fun r9 σ9 M9 N9 S9 h9 hp => ?_)
  obtain ⟨rfl, hz9⟩ := hp
  refine x_aload_n (q := 956) dL_law_955 rfl rfl ?_
  refine x_aload_n (q := 957) dL_law_956 rfl rfl ?_
  refine x_iload (q := 959) dL_law_957 rfl rfl ?_
  refine xn_iconst (q := 960) 1 dL_law_959 rfl (by decide) ?_
  refine xn_iadd (q := 961) dL_law_960 rfl ?_
  refine x_sld (q := 962) hs dL_law_961 rfl (by omega) hL ?_
  refine l_callM (As := [.int (iI (ys (i + 1)))]) (rest := [_]) (q := 965) h9 rfl imX9_count ivX9_count ilX9_count mwL_100 dL_law_962 rfl (rfl) rfl (Nat.le_of_ble_eq_true rfl) (c_count G l o as M9 N9 S9 19 τ z hr (ys (i + 1)) (hy _).1 (hy _).2) (fun r8 τ8 M8 h8 hp => ?_)
  obtain ⟨rfl, hr8⟩ := hp
  exact x_icmp_eq (q := 968) 970 dL_law_965 (by decide) rfl (fun _ => next R _ _ _ _ ⟨σ9, τ8, f, h8, hz9, hr8, hse⟩ (by omega) (by omega)) (fun hne => absurd rfl hne)
set_option maxRecDepth 100000 in
set_option maxHeartbeats 4000000 in
theorem lc_member (hlt : l.stackTraces = false) (hR1 : R.1 + 1 + 163840 ≤ G.2.2.2.2.1) (hR2 : R.2 + 6 + 327680 ≤ G.2.2.2.2.2) (hs : rArr G "SCRIPT" b L (fun j => iI (ys j))) (hL : L ≤ 3584) (hy : ∀ j, -2147483648 ≤ ys j ∧ ys j < 2147483648) (hi : i + 7 ≤ L) (h : LJ G ad o ob as R z M N S) (next : ∀ R' z' M' N' S', LJ G ad o ob as R' z' M' N' S' → R'.1 ≤ R.1 + 1 → R'.2 ≤ R.2 + 6 → xX G l YL_law 21 lQ 970 (lsL b ad o ob i) [] M' N' S') : xX G l YL_law 21 lQ 154 (lsL b ad o ob i) [] M N S := by
  obtain ⟨σ, τ, f, hv, hz, hr, hse⟩ := h
  have ok := hr.1.1.1
  refine x_aload_n (q := 155) dL_law_154 rfl rfl ?_
  refine x_aload_n (q := 156) dL_law_155 rfl rfl ?_
  refine x_iload (q := 158) dL_law_156 rfl rfl ?_
  refine xn_iconst (q := 159) 1 dL_law_158 rfl (by decide) ?_
  refine xn_iadd (q := 160) dL_law_159 rfl ?_
  refine x_sld (q := 161) hs dL_law_160 rfl (by omega) hL ?_
  refine x_aload_n (q := 162) dL_law_161 rfl rfl ?_
  refine x_iload (q := 164) dL_law_162 rfl rfl ?_
  refine xn_iconst (q := 165) 2 dL_law_164 rfl (by decide) ?_
  refine xn_iadd (q := 166) dL_law_165 rfl ?_
  refine x_sld (q := 167) hs dL_law_166 rfl (by omega) hL ?_
  refine x_i2l (q := 168) dL_law_167 rfl ?_
  refine xn_bipush (q := 170) 32 dL_law_168 rfl (by decide) ?_
  refine x_lshl (q := 171) dL_law_170 rfl ?_
  refine x_aload_n (q := 172) dL_law_171 rfl rfl ?_
  refine x_iload (q := 174) dL_law_172 rfl rfl ?_
  refine xn_iconst (q := 175) 3 dL_law_174 rfl (by decide) ?_
  refine xn_iadd (q := 176) dL_law_175 rfl ?_
  refine x_sld (q := 177) hs dL_law_176 rfl (by omega) hL ?_
  refine x_i2l (q := 178) dL_law_177 rfl ?_
  refine x_ldc2 (q := 181) 4294967295 dL_law_178 rfl cwL_36 ?_
  refine x_land (q := 182) dL_law_181 rfl ?_
  refine x_lor (q := 183) dL_law_182 rfl ?_
  refine x_aload_n (q := 184) dL_law_183 rfl rfl ?_
  refine x_iload (q := 186) dL_law_184 rfl rfl ?_
  refine xn_iconst (q := 187) 4 dL_law_186 rfl (by decide) ?_
  refine xn_iadd (q := 188) dL_law_187 rfl ?_
  refine x_sld (q := 189) hs dL_law_188 rfl (by omega) hL ?_
  refine x_i2l (q := 190) dL_law_189 rfl ?_
  refine xn_bipush (q := 192) 32 dL_law_190 rfl (by decide) ?_
  refine x_lshl (q := 193) dL_law_192 rfl ?_
  refine x_aload_n (q := 194) dL_law_193 rfl rfl ?_
  refine x_iload (q := 196) dL_law_194 rfl rfl ?_
  refine xn_iconst (q := 197) 5 dL_law_196 rfl (by decide) ?_
  refine xn_iadd (q := 198) dL_law_197 rfl ?_
  refine x_sld (q := 199) hs dL_law_198 rfl (by omega) hL ?_
  refine x_i2l (q := 200) dL_law_199 rfl ?_
  refine x_ldc2 (q := 203) 4294967295 dL_law_200 rfl cwL_36 ?_
  refine x_land (q := 204) dL_law_203 rfl ?_
  refine x_lor (q := 205) dL_law_204 rfl ?_
  refine x_aload_n (q := 206) dL_law_205 rfl rfl ?_
  refine x_callSW (Y' := YL_member) (hh := hhL_member) (n := 5) (As := [.ref (ad 0), .int (iI (ys (i + 1))), .long (iL (lgZ (ys (i + 2)) (ys (i + 3)))), .long (iL (lgZ (ys (i + 4)) (ys (i + 5)))), .ref ob]) (rest := []) (q := 209) cwL_member inL (by decide +kernel) (by decide) isL_member mwL_38 dL_law_206 rfl (by rw [← lg_eq (ys (i + 2)) (ys (i + 3)), ← lg_eq (ys (i + 4)) (ys (i + 5))]; rfl) rfl (by decide) ?_
  refine (s_member (d := 11) hlt hv hz (ys (i + 1)) (lgZ (ys (i + 2)) (ys (i + 3))) (lgZ (ys (i + 4)) (ys (i + 5))) (hy _).1 (hy _).2 (lg_1 _ _) (lg_2 _ _) (lg_1 _ _) (lg_2 _ _) hR1 hR2).mono (fun r9 M9 N9 S9 hp => ?_)
  obtain ⟨R9, σ9, f9, h9, hz9, rfl, hr1, hr2, hf9⟩ := hp
  refine x_istore (q := 211) (ls' := [(0, _), (1, _), (2, _), (3, _), (4, _), (5, _)]) [1, 2, 3, 4, 5, 0] dL_law_209 rfl (by decide) rfl ?_
  refine x_aload_n (q := 212) dL_law_211 rfl rfl ?_
  refine x_aload_n (q := 213) dL_law_212 rfl rfl ?_
  refine x_iload (q := 215) dL_law_213 rfl rfl ?_
  refine xn_iconst (q := 216) 1 dL_law_215 rfl (by decide) ?_
  refine xn_iadd (q := 217) dL_law_216 rfl ?_
  refine x_sld (q := 218) hs dL_law_217 rfl (by omega) hL ?_
  refine x_aload_n (q := 219) dL_law_218 rfl rfl ?_
  refine x_iload (q := 221) dL_law_219 rfl rfl ?_
  refine xn_iconst (q := 222) 2 dL_law_221 rfl (by decide) ?_
  refine xn_iadd (q := 223) dL_law_222 rfl ?_
  refine x_sld (q := 224) hs dL_law_223 rfl (by omega) hL ?_
  refine x_i2l (q := 225) dL_law_224 rfl ?_
  refine xn_bipush (q := 227) 32 dL_law_225 rfl (by decide) ?_
  refine x_lshl (q := 228) dL_law_227 rfl ?_
  refine x_aload_n (q := 229) dL_law_228 rfl rfl ?_
  refine x_iload (q := 231) dL_law_229 rfl rfl ?_
  refine xn_iconst (q := 232) 3 dL_law_231 rfl (by decide) ?_
  refine xn_iadd (q := 233) dL_law_232 rfl ?_
  refine x_sld (q := 234) hs dL_law_233 rfl (by omega) hL ?_
  refine x_i2l (q := 235) dL_law_234 rfl ?_
  refine x_ldc2 (q := 238) 4294967295 dL_law_235 rfl cwL_36 ?_
  refine x_land (q := 239) dL_law_238 rfl ?_
  refine x_lor (q := 240) dL_law_239 rfl ?_
  refine x_aload_n (q := 241) dL_law_240 rfl rfl ?_
  refine x_iload (q := 243) dL_law_241 rfl rfl ?_
  refine xn_iconst (q := 244) 4 dL_law_243 rfl (by decide) ?_
  refine xn_iadd (q := 245) dL_law_244 rfl ?_
  refine x_sld (q := 246) hs dL_law_245 rfl (by omega) hL ?_
  refine x_i2l (q := 247) dL_law_246 rfl ?_
  refine xn_bipush (q := 249) 32 dL_law_247 rfl (by decide) ?_
  refine x_lshl (q := 250) dL_law_249 rfl ?_
  refine x_aload_n (q := 251) dL_law_250 rfl rfl ?_
  refine x_iload (q := 253) dL_law_251 rfl rfl ?_
  refine xn_iconst (q := 254) 5 dL_law_253 rfl (by decide) ?_
  refine xn_iadd (q := 255) dL_law_254 rfl ?_
  refine x_sld (q := 256) hs dL_law_255 rfl (by omega) hL ?_
  refine x_i2l (q := 257) dL_law_256 rfl ?_
  refine x_ldc2 (q := 260) 4294967295 dL_law_257 rfl cwL_36 ?_
  refine x_land (q := 261) dL_law_260 rfl ?_
  refine x_lor (q := 262) dL_law_261 rfl ?_
  refine l_callM (As := [.int (iI (ys (i + 1))), .long (iL (lgZ (ys (i + 2)) (ys (i + 3)))), .long (iL (lgZ (ys (i + 4)) (ys (i + 5))))]) (rest := []) (q := 265) h9 rfl imX9_member ivX9_member ilX9_member mwL_43 dL_law_262 rfl (by rw [← lg_eq (ys (i + 2)) (ys (i + 3)), ← lg_eq (ys (i + 4)) (ys (i + 5))]; rfl) rfl (Nat.le_of_ble_eq_true rfl) (c_member G l o as M9 N9 S9 19 τ z hr (ys (i + 1)) (lgZ (ys (i + 2)) (ys (i + 3))) (lgZ (ys (i + 4)) (ys (i + 5))) (hy _).1 (hy _).2 (lg_1 _ _) (lg_2 _ _) (lg_1 _ _) (lg_2 _ _)) (fun r8 τ8 M8 h8 hp => ?_)
  obtain ⟨rfl, ht8, hr8⟩ := hp
  refine x_istore (q := 267) (ls' := [(0, _), (1, _), (2, _), (3, _), (4, _), (5, _), (6, _)]) [1, 2, 3, 4, 5, 6, 0] dL_law_265 rfl (by decide) rfl ?_
  refine x_aload_n (q := 268) dL_law_267 rfl rfl ?_
  refine l_callM (As := []) (rest := []) (q := 271) h8 rfl imX9_thrown ivX9_thrown ilX9_thrown mwL_44 dL_law_268 rfl rfl rfl (Nat.le_of_ble_eq_true rfl) (c_thrown G l o as M8 N9 S9 20 τ8) (fun r7 τ7 M7 h7 hp => ?_)
  obtain ⟨rfl, rfl⟩ := hp
  refine x_iload (q := 273) dL_law_271 rfl rfl ?_
  refine x_icmp_eq (q := 276) 278 dL_law_273 (by decide) rfl (fun _ => ?_) (fun hne => absurd ht8 hne)
  have fin : xX G l YL_law 21 lQ 302 [(0, .ref b), (1, .ref (ad 0)), (2, .ref o), (3, .ref ob), (4, .int (nI i)), (5, .int (bI (spMember z (ys (i + 1)) (lgZ (ys (i + 2)) (ys (i + 3))) (lgZ (ys (i + 4)) (ys (i + 5)))).1)), (6, .int (bI (spMember z (ys (i + 1)) (lgZ (ys (i + 2)) (ys (i + 3))) (lgZ (ys (i + 4)) (ys (i + 5)))).2.1))] [] M7 N9 S9 := by
    refine x_goto 970 dL_law_302 (by decide) ?_
    refine x_less (ls' := lsL b ad o ob i) (fun q hq => List.mem_append_left [(5, _), (6, _)] hq) ?_
    exact next R9 _ _ _ _ ⟨σ9, τ7, f9, h7, hz9, hr8, seI_m hse _ _ _⟩ hr1 hr2
  refine x_iload (q := 280) dL_law_278 rfl rfl ?_
  refine x_if_ne (q := 283) 302 dL_law_280 (by decide) rfl (fun _ => fin) (fun hc0 => ?_)
  have hf9 := hf9 (bI_eq.mp hc0)
  refine x_aload_n (q := 284) dL_law_283 rfl rfl ?_
  refine xn_iconst (q := 285) 0 dL_law_284 rfl (by decide) ?_
  refine x_lald (q := 286) (n := 1) (f := f9) dL_law_285 rfl h7.2.2.1 (vp_in_nI (by decide) (by decide)) ?_
  rw [nI_clamp (by decide), hf9]
  refine x_iload (q := 288) dL_law_286 rfl rfl ?_
  refine x_if_eq (q := 291) 295 dL_law_288 (by decide) rfl (fun hc => ?_) (fun hc => ?_)
  · refine xn_lconst (q := 296) 0 dL_law_295 rfl (by decide) ?_
    exact x_lcmp_eq (q1 := 297) (q := 300) 302 dL_law_296 rfl dL_law_297 (by decide) rfl (fun _ => fin) (fun hne => absurd (lB0 (bI_eq.mp hc)).symm hne)
  · refine xn_lconst (q := 292) 1 dL_law_291 rfl (by decide) ?_
    refine x_goto 296 dL_law_292 (by decide) ?_
    exact x_lcmp_eq (q1 := 297) (q := 300) 302 dL_law_296 rfl dL_law_297 (by decide) rfl (fun _ => fin) (fun hne => absurd (lB1 (bI_ne.mp hc)).symm hne)
set_option maxRecDepth 100000 in
set_option maxHeartbeats 4000000 in
theorem lc_support (hlt : l.stackTraces = false) (hR1 : R.1 + 1 + 163840 ≤ G.2.2.2.2.1) (hR2 : R.2 + 6 + 327680 ≤ G.2.2.2.2.2) (hs : rArr G "SCRIPT" b L (fun j => iI (ys j))) (hL : L ≤ 3584) (hy : ∀ j, -2147483648 ≤ ys j ∧ ys j < 2147483648) (hi : i + 7 ≤ L) (h : LJ G ad o ob as R z M N S) (next : ∀ R' z' M' N' S', LJ G ad o ob as R' z' M' N' S' → R'.1 ≤ R.1 + 1 → R'.2 ≤ R.2 + 6 → xX G l YL_law 21 lQ 970 (lsL b ad o ob i) [] M' N' S') : xX G l YL_law 21 lQ 305 (lsL b ad o ob i) [] M N S := by
  obtain ⟨σ, τ, f, hv, hz, hr, hse⟩ := h
  have ok := hr.1.1.1
  have hb1 : ∀ x : Int32, ¬ x = 0 → nI 1 = bI (decide (¬ x = 0)) := fun x hx => by rw [decide_eq_true hx]; rfl
  have hb0 : ∀ x : Int32, x = 0 → nI 0 = bI (decide (¬ x = 0)) := fun x hx => by rw [decide_eq_false (fun h => h hx)]; rfl
  refine x_aload_n (q := 306) dL_law_305 rfl rfl ?_
  refine x_aload_n (q := 307) dL_law_306 rfl rfl ?_
  refine x_iload (q := 309) dL_law_307 rfl rfl ?_
  refine xn_iconst (q := 310) 1 dL_law_309 rfl (by decide) ?_
  refine xn_iadd (q := 311) dL_law_310 rfl ?_
  refine x_sld (q := 312) hs dL_law_311 rfl (by omega) hL ?_
  refine x_aload_n (q := 313) dL_law_312 rfl rfl ?_
  refine x_iload (q := 315) dL_law_313 rfl rfl ?_
  refine xn_iconst (q := 316) 2 dL_law_315 rfl (by decide) ?_
  refine xn_iadd (q := 317) dL_law_316 rfl ?_
  refine x_sld (q := 318) hs dL_law_317 rfl (by omega) hL ?_
  refine x_aload_n (q := 319) dL_law_318 rfl rfl ?_
  refine x_iload (q := 321) dL_law_319 rfl rfl ?_
  refine xn_iconst (q := 322) 3 dL_law_321 rfl (by decide) ?_
  refine xn_iadd (q := 323) dL_law_322 rfl ?_
  refine x_sld (q := 324) hs dL_law_323 rfl (by omega) hL ?_
  have go1 : xX G l YL_law 21 lQ 332 (lsL b ad o ob i) (.int (bI (decide (¬ iI (ys (i + 3)) = 0))) :: .int (iI (ys (i + 2))) :: .int (iI (ys (i + 1))) :: .ref (ad 0) :: []) M N S := by
    refine x_aload_n (q := 333) dL_law_332 rfl rfl ?_
    refine x_callSW (Y' := YL_support) (hh := hhL_support) (n := 5) (As := [.ref (ad 0), .int (iI (ys (i + 1))), .int (iI (ys (i + 2))), .int (bI (decide (¬ iI (ys (i + 3)) = 0))), .ref ob]) (rest := []) (q := 336) cwL_support inL (by decide +kernel) (by decide) isL_support mwL_47 dL_law_333 rfl (rfl) rfl (by decide) ?_
    refine (s_support (d := 11) hlt hv hz hse (ys (i + 1)) (ys (i + 2)) (decide (¬ iI (ys (i + 3)) = 0)) (hy _).1 (hy _).2 (hy _).1 (hy _).2 hR1 hR2).mono (fun r9 M9 N9 S9 hp => ?_)
    obtain ⟨R9, σ9, f9, h9, hz9, rfl, hr1, hr2, hf9⟩ := hp
    refine x_istore (q := 338) (ls' := [(0, _), (1, _), (2, _), (3, _), (4, _), (5, _)]) [1, 2, 3, 4, 5, 0] dL_law_336 rfl (by decide) rfl ?_
    refine x_aload_n (q := 339) dL_law_338 rfl rfl ?_
    refine x_aload_n (q := 340) dL_law_339 rfl rfl ?_
    refine x_iload (q := 342) dL_law_340 rfl rfl ?_
    refine xn_iconst (q := 343) 1 dL_law_342 rfl (by decide) ?_
    refine xn_iadd (q := 344) dL_law_343 rfl ?_
    refine x_sld (q := 345) hs dL_law_344 rfl (by omega) hL ?_
    refine x_aload_n (q := 346) dL_law_345 rfl rfl ?_
    refine x_iload (q := 348) dL_law_346 rfl rfl ?_
    refine xn_iconst (q := 349) 2 dL_law_348 rfl (by decide) ?_
    refine xn_iadd (q := 350) dL_law_349 rfl ?_
    refine x_sld (q := 351) hs dL_law_350 rfl (by omega) hL ?_
    refine x_aload_n (q := 352) dL_law_351 rfl rfl ?_
    refine x_iload (q := 354) dL_law_352 rfl rfl ?_
    refine xn_iconst (q := 355) 3 dL_law_354 rfl (by decide) ?_
    refine xn_iadd (q := 356) dL_law_355 rfl ?_
    refine x_sld (q := 357) hs dL_law_356 rfl (by omega) hL ?_
    have go2 : xX G l YL_law 21 lQ 365 [(0, .ref b), (1, .ref (ad 0)), (2, .ref o), (3, .ref ob), (4, .int (nI i)), (5, .int (bI (spSupport z (ys (i + 1)) (ys (i + 2)) (decide (¬ iI (ys (i + 3)) = 0))).1))] (.int (bI (decide (¬ iI (ys (i + 3)) = 0))) :: .int (iI (ys (i + 2))) :: .int (iI (ys (i + 1))) :: .ref o :: []) M9 N9 S9 := by
      refine l_callM (As := [.int (iI (ys (i + 1))), .int (iI (ys (i + 2))), .int (bI (decide (¬ iI (ys (i + 3)) = 0)))]) (rest := []) (q := 368) h9 rfl imX9_support ivX9_support ilX9_support mwL_50 dL_law_365 rfl (rfl) rfl (Nat.le_of_ble_eq_true rfl) (c_support G l o as M9 N9 S9 19 τ z hr (ys (i + 1)) (ys (i + 2)) (decide (¬ iI (ys (i + 3)) = 0)) (hy _).1 (hy _).2 (hy _).1 (hy _).2) (fun r8 τ8 M8 h8 hp => ?_)
      obtain ⟨rfl, ht8, hr8⟩ := hp
      refine x_istore (q := 370) (ls' := [(0, _), (1, _), (2, _), (3, _), (4, _), (5, _), (6, _)]) [1, 2, 3, 4, 5, 6, 0] dL_law_368 rfl (by decide) rfl ?_
      refine x_aload_n (q := 371) dL_law_370 rfl rfl ?_
      refine l_callM (As := []) (rest := []) (q := 374) h8 rfl imX9_thrown ivX9_thrown ilX9_thrown mwL_44 dL_law_371 rfl rfl rfl (Nat.le_of_ble_eq_true rfl) (c_thrown G l o as M8 N9 S9 20 τ8) (fun r7 τ7 M7 h7 hp => ?_)
      obtain ⟨rfl, rfl⟩ := hp
      refine x_iload (q := 376) dL_law_374 rfl rfl ?_
      refine x_icmp_eq (q := 379) 381 dL_law_376 (by decide) rfl (fun _ => ?_) (fun hne => absurd ht8 hne)
      have fin : xX G l YL_law 21 lQ 405 [(0, .ref b), (1, .ref (ad 0)), (2, .ref o), (3, .ref ob), (4, .int (nI i)), (5, .int (bI (spSupport z (ys (i + 1)) (ys (i + 2)) (decide (¬ iI (ys (i + 3)) = 0))).1)), (6, .int (bI (spSupport z (ys (i + 1)) (ys (i + 2)) (decide (¬ iI (ys (i + 3)) = 0))).2.1))] [] M7 N9 S9 := by
        refine x_goto 970 dL_law_405 (by decide) ?_
        refine x_less (ls' := lsL b ad o ob i) (fun q hq => List.mem_append_left [(5, _), (6, _)] hq) ?_
        exact next R9 _ _ _ _ ⟨σ9, τ7, f9, h7, hz9, hr8, seI_s hse _ _ _⟩ hr1 hr2
      refine x_iload (q := 383) dL_law_381 rfl rfl ?_
      refine x_if_ne (q := 386) 405 dL_law_383 (by decide) rfl (fun _ => fin) (fun hc0 => ?_)
      have hf9 := hf9 (bI_eq.mp hc0)
      refine x_aload_n (q := 387) dL_law_386 rfl rfl ?_
      refine xn_iconst (q := 388) 0 dL_law_387 rfl (by decide) ?_
      refine x_lald (q := 389) (n := 1) (f := f9) dL_law_388 rfl h7.2.2.1 (vp_in_nI (by decide) (by decide)) ?_
      rw [nI_clamp (by decide), hf9]
      refine x_iload (q := 391) dL_law_389 rfl rfl ?_
      refine x_if_eq (q := 394) 398 dL_law_391 (by decide) rfl (fun hc => ?_) (fun hc => ?_)
      · refine xn_lconst (q := 399) 0 dL_law_398 rfl (by decide) ?_
        exact x_lcmp_eq (q1 := 400) (q := 403) 405 dL_law_399 rfl dL_law_400 (by decide) rfl (fun _ => fin) (fun hne => absurd (lB0 (bI_eq.mp hc)).symm hne)
      · refine xn_lconst (q := 395) 1 dL_law_394 rfl (by decide) ?_
        refine x_goto 399 dL_law_395 (by decide) ?_
        exact x_lcmp_eq (q1 := 400) (q := 403) 405 dL_law_399 rfl dL_law_400 (by decide) rfl (fun _ => fin) (fun hne => absurd (lB1 (bI_ne.mp hc)).symm hne)
    refine x_if_eq (q := 360) 364 dL_law_357 (by decide) rfl (fun hc => ?_) (fun hc => ?_)
    · refine xn_iconst (q := 365) 0 dL_law_364 rfl (by decide) ?_
      rw [hb0 _ hc]; exact go2
    · refine xn_iconst (q := 361) 1 dL_law_360 rfl (by decide) ?_
      refine x_goto 365 dL_law_361 (by decide) ?_
      rw [hb1 _ hc]; exact go2
  refine x_if_eq (q := 327) 331 dL_law_324 (by decide) rfl (fun hc => ?_) (fun hc => ?_)
  · refine xn_iconst (q := 332) 0 dL_law_331 rfl (by decide) ?_
    rw [hb0 _ hc]; exact go1
  · refine xn_iconst (q := 328) 1 dL_law_327 rfl (by decide) ?_
    refine x_goto 332 dL_law_328 (by decide) ?_
    rw [hb1 _ hc]; exact go1
set_option maxRecDepth 100000 in
set_option maxHeartbeats 4000000 in
theorem lc_hinge (hlt : l.stackTraces = false) (hR1 : R.1 + 1 + 163840 ≤ G.2.2.2.2.1) (hR2 : R.2 + 6 + 327680 ≤ G.2.2.2.2.2) (hs : rArr G "SCRIPT" b L (fun j => iI (ys j))) (hL : L ≤ 3584) (hy : ∀ j, -2147483648 ≤ ys j ∧ ys j < 2147483648) (hi : i + 7 ≤ L) (h : LJ G ad o ob as R z M N S) (next : ∀ R' z' M' N' S', LJ G ad o ob as R' z' M' N' S' → R'.1 ≤ R.1 + 1 → R'.2 ≤ R.2 + 6 → xX G l YL_law 21 lQ 970 (lsL b ad o ob i) [] M' N' S') : xX G l YL_law 21 lQ 408 (lsL b ad o ob i) [] M N S := by
  obtain ⟨σ, τ, f, hv, hz, hr, hse⟩ := h
  have ok := hr.1.1.1
  have hb1 : ∀ x : Int32, ¬ x = 0 → nI 1 = bI (decide (¬ x = 0)) := fun x hx => by rw [decide_eq_true hx]; rfl
  have hb0 : ∀ x : Int32, x = 0 → nI 0 = bI (decide (¬ x = 0)) := fun x hx => by rw [decide_eq_false (fun h => h hx)]; rfl
  refine x_aload_n (q := 409) dL_law_408 rfl rfl ?_
  refine x_aload_n (q := 410) dL_law_409 rfl rfl ?_
  refine x_iload (q := 412) dL_law_410 rfl rfl ?_
  refine xn_iconst (q := 413) 1 dL_law_412 rfl (by decide) ?_
  refine xn_iadd (q := 414) dL_law_413 rfl ?_
  refine x_sld (q := 415) hs dL_law_414 rfl (by omega) hL ?_
  refine x_aload_n (q := 416) dL_law_415 rfl rfl ?_
  refine x_iload (q := 418) dL_law_416 rfl rfl ?_
  refine xn_iconst (q := 419) 2 dL_law_418 rfl (by decide) ?_
  refine xn_iadd (q := 420) dL_law_419 rfl ?_
  refine x_sld (q := 421) hs dL_law_420 rfl (by omega) hL ?_
  refine x_aload_n (q := 422) dL_law_421 rfl rfl ?_
  refine x_iload (q := 424) dL_law_422 rfl rfl ?_
  refine xn_iconst (q := 425) 3 dL_law_424 rfl (by decide) ?_
  refine xn_iadd (q := 426) dL_law_425 rfl ?_
  refine x_sld (q := 427) hs dL_law_426 rfl (by omega) hL ?_
  have go1 : xX G l YL_law 21 lQ 435 (lsL b ad o ob i) (.int (bI (decide (¬ iI (ys (i + 3)) = 0))) :: .int (iI (ys (i + 2))) :: .int (iI (ys (i + 1))) :: .ref (ad 0) :: []) M N S := by
    refine x_aload_n (q := 436) dL_law_435 rfl rfl ?_
    refine x_callSW (Y' := YL_hinge) (hh := hhL_hinge) (n := 5) (As := [.ref (ad 0), .int (iI (ys (i + 1))), .int (iI (ys (i + 2))), .int (bI (decide (¬ iI (ys (i + 3)) = 0))), .ref ob]) (rest := []) (q := 439) cwL_hinge inL (by decide +kernel) (by decide) isL_hinge mwL_51 dL_law_436 rfl (rfl) rfl (by decide) ?_
    refine (s_hinge (d := 11) hlt hv hz (ys (i + 1)) (ys (i + 2)) (decide (¬ iI (ys (i + 3)) = 0)) (hy _).1 (hy _).2 (hy _).1 (hy _).2 hR1 hR2).mono (fun r9 M9 N9 S9 hp => ?_)
    obtain ⟨R9, σ9, f9, h9, hz9, rfl, hr1, hr2, hf9⟩ := hp
    refine x_istore (q := 441) (ls' := [(0, _), (1, _), (2, _), (3, _), (4, _), (5, _)]) [1, 2, 3, 4, 5, 0] dL_law_439 rfl (by decide) rfl ?_
    refine x_aload_n (q := 442) dL_law_441 rfl rfl ?_
    refine x_aload_n (q := 443) dL_law_442 rfl rfl ?_
    refine x_iload (q := 445) dL_law_443 rfl rfl ?_
    refine xn_iconst (q := 446) 1 dL_law_445 rfl (by decide) ?_
    refine xn_iadd (q := 447) dL_law_446 rfl ?_
    refine x_sld (q := 448) hs dL_law_447 rfl (by omega) hL ?_
    refine x_aload_n (q := 449) dL_law_448 rfl rfl ?_
    refine x_iload (q := 451) dL_law_449 rfl rfl ?_
    refine xn_iconst (q := 452) 2 dL_law_451 rfl (by decide) ?_
    refine xn_iadd (q := 453) dL_law_452 rfl ?_
    refine x_sld (q := 454) hs dL_law_453 rfl (by omega) hL ?_
    refine x_aload_n (q := 455) dL_law_454 rfl rfl ?_
    refine x_iload (q := 457) dL_law_455 rfl rfl ?_
    refine xn_iconst (q := 458) 3 dL_law_457 rfl (by decide) ?_
    refine xn_iadd (q := 459) dL_law_458 rfl ?_
    refine x_sld (q := 460) hs dL_law_459 rfl (by omega) hL ?_
    have go2 : xX G l YL_law 21 lQ 468 [(0, .ref b), (1, .ref (ad 0)), (2, .ref o), (3, .ref ob), (4, .int (nI i)), (5, .int (bI (spHinge z (ys (i + 1)) (ys (i + 2)) (decide (¬ iI (ys (i + 3)) = 0))).1))] (.int (bI (decide (¬ iI (ys (i + 3)) = 0))) :: .int (iI (ys (i + 2))) :: .int (iI (ys (i + 1))) :: .ref o :: []) M9 N9 S9 := by
      refine l_callM (As := [.int (iI (ys (i + 1))), .int (iI (ys (i + 2))), .int (bI (decide (¬ iI (ys (i + 3)) = 0)))]) (rest := []) (q := 471) h9 rfl imX9_hinge ivX9_hinge ilX9_hinge mwL_53 dL_law_468 rfl (rfl) rfl (Nat.le_of_ble_eq_true rfl) (c_hinge G l o as M9 N9 S9 19 τ z hr (ys (i + 1)) (ys (i + 2)) (decide (¬ iI (ys (i + 3)) = 0)) (hy _).1 (hy _).2 (hy _).1 (hy _).2) (fun r8 τ8 M8 h8 hp => ?_)
      obtain ⟨rfl, ht8, hr8⟩ := hp
      refine x_istore (q := 473) (ls' := [(0, _), (1, _), (2, _), (3, _), (4, _), (5, _), (6, _)]) [1, 2, 3, 4, 5, 6, 0] dL_law_471 rfl (by decide) rfl ?_
      refine x_aload_n (q := 474) dL_law_473 rfl rfl ?_
      refine l_callM (As := []) (rest := []) (q := 477) h8 rfl imX9_thrown ivX9_thrown ilX9_thrown mwL_44 dL_law_474 rfl rfl rfl (Nat.le_of_ble_eq_true rfl) (c_thrown G l o as M8 N9 S9 20 τ8) (fun r7 τ7 M7 h7 hp => ?_)
      obtain ⟨rfl, rfl⟩ := hp
      refine x_iload (q := 479) dL_law_477 rfl rfl ?_
      refine x_icmp_eq (q := 482) 484 dL_law_479 (by decide) rfl (fun _ => ?_) (fun hne => absurd ht8 hne)
      have fin : xX G l YL_law 21 lQ 508 [(0, .ref b), (1, .ref (ad 0)), (2, .ref o), (3, .ref ob), (4, .int (nI i)), (5, .int (bI (spHinge z (ys (i + 1)) (ys (i + 2)) (decide (¬ iI (ys (i + 3)) = 0))).1)), (6, .int (bI (spHinge z (ys (i + 1)) (ys (i + 2)) (decide (¬ iI (ys (i + 3)) = 0))).2.1))] [] M7 N9 S9 := by
        refine x_goto 970 dL_law_508 (by decide) ?_
        refine x_less (ls' := lsL b ad o ob i) (fun q hq => List.mem_append_left [(5, _), (6, _)] hq) ?_
        exact next R9 _ _ _ _ ⟨σ9, τ7, f9, h7, hz9, hr8, seI_h hse _ _ _⟩ hr1 hr2
      refine x_iload (q := 486) dL_law_484 rfl rfl ?_
      refine x_if_ne (q := 489) 508 dL_law_486 (by decide) rfl (fun _ => fin) (fun hc0 => ?_)
      have hf9 := hf9 (bI_eq.mp hc0)
      refine x_aload_n (q := 490) dL_law_489 rfl rfl ?_
      refine xn_iconst (q := 491) 0 dL_law_490 rfl (by decide) ?_
      refine x_lald (q := 492) (n := 1) (f := f9) dL_law_491 rfl h7.2.2.1 (vp_in_nI (by decide) (by decide)) ?_
      rw [nI_clamp (by decide), hf9]
      refine x_iload (q := 494) dL_law_492 rfl rfl ?_
      refine x_if_eq (q := 497) 501 dL_law_494 (by decide) rfl (fun hc => ?_) (fun hc => ?_)
      · refine xn_lconst (q := 502) 0 dL_law_501 rfl (by decide) ?_
        exact x_lcmp_eq (q1 := 503) (q := 506) 508 dL_law_502 rfl dL_law_503 (by decide) rfl (fun _ => fin) (fun hne => absurd (lB0 (bI_eq.mp hc)).symm hne)
      · refine xn_lconst (q := 498) 1 dL_law_497 rfl (by decide) ?_
        refine x_goto 502 dL_law_498 (by decide) ?_
        exact x_lcmp_eq (q1 := 503) (q := 506) 508 dL_law_502 rfl dL_law_503 (by decide) rfl (fun _ => fin) (fun hne => absurd (lB1 (bI_ne.mp hc)).symm hne)
    refine x_if_eq (q := 463) 467 dL_law_460 (by decide) rfl (fun hc => ?_) (fun hc => ?_)
    · refine xn_iconst (q := 468) 0 dL_law_467 rfl (by decide) ?_
      rw [hb0 _ hc]; exact go2
    · refine xn_iconst (q := 464) 1 dL_law_463 rfl (by decide) ?_
      refine x_goto 468 dL_law_464 (by decide) ?_
      rw [hb1 _ hc]; exact go2
  refine x_if_eq (q := 430) 434 dL_law_427 (by decide) rfl (fun hc => ?_) (fun hc => ?_)
  · refine xn_iconst (q := 435) 0 dL_law_434 rfl (by decide) ?_
    rw [hb0 _ hc]; exact go1
  · refine xn_iconst (q := 431) 1 dL_law_430 rfl (by decide) ?_
    refine x_goto 435 dL_law_431 (by decide) ?_
    rw [hb1 _ hc]; exact go1
end
set_option maxRecDepth 100000 in
set_option maxHeartbeats 4000000 in
theorem law_loop {G : xG} {l : Launch} {ad : Nat → Nat} {o ob : Nat} {as : Nat → Nat} {b L : Nat} {ys : Nat → Int} (hlt : l.stackTraces = false) (hs : rArr G "SCRIPT" b L (fun j => iI (ys j))) (hL : L ≤ 3584) (hy : ∀ j, -2147483648 ≤ ys j ∧ ys j < 2147483648) : ∀ (n i : Nat) (R : Nat × Nat) (z : mT) (M : xM) (N S : Nat), L ≤ i + 7 * n → i ≤ 100000 → R.1 + n + 163840 ≤ G.2.2.2.2.1 → R.2 + 6 * n + 327680 ≤ G.2.2.2.2.2 → LJ G ad o ob as R z M N S → xX G l YL_law 21 lQ 23 (lsL b ad o ob i) [] M N S := by
  intro n
  induction n with
  | zero =>
    intro i R z M N S hn hi hR1 hR2 h
    refine x_iload (q := 25) dL_law_23 rfl rfl ?_
    refine x_aload_n (q := 26) dL_law_25 rfl rfl ?_
    refine x_slen (q := 27) hs dL_law_26 rfl ?_
    refine xn_bipush (q := 29) 7 dL_law_27 rfl (by decide) ?_
    refine xi_isub (q := 30) dL_law_29 rfl (nI_i L) (nI_i 7) ?_
    refine xi_icmp_gt (q := 33) 976 dL_law_30 (by decide) rfl (nI_i i) rfl (by omega) (by omega) (by omega) (by omega) (fun _ => ?_) (fun hc => absurd hc (by omega))
    refine x_iconst (q := 977) 1 dL_law_976 rfl (by decide) ?_
    exact x_zret rfl (by decide) dL_law_977 rfl
  | succ n ih =>
    intro i R z M N S hn hi hR1 hR2 h
    refine x_iload (q := 25) dL_law_23 rfl rfl ?_
    refine x_aload_n (q := 26) dL_law_25 rfl rfl ?_
    refine x_slen (q := 27) hs dL_law_26 rfl ?_
    refine xn_bipush (q := 29) 7 dL_law_27 rfl (by decide) ?_
    refine xi_isub (q := 30) dL_law_29 rfl (nI_i L) (nI_i 7) ?_
    refine xi_icmp_gt (q := 33) 976 dL_law_30 (by decide) rfl (nI_i i) rfl (by omega) (by omega) (by omega) (by omega) (fun _ => ?_) (fun hc => ?_)
    · refine x_iconst (q := 977) 1 dL_law_976 rfl (by decide) ?_
      exact x_zret rfl (by decide) dL_law_977 rfl
    have hi7 : i + 7 ≤ L := by omega
    have next : ∀ R' z' M' N' S', LJ G ad o ob as R' z' M' N' S' → R'.1 ≤ R.1 + 1 → R'.2 ≤ R.2 + 6 → xX G l YL_law 21 lQ 970 (lsL b ad o ob i) [] M' N' S' := by
      intro R' z' M' N' S' h' h1 h2
      refine xn_iinc (q := 973) (ls' := lsL b ad o ob (i + 7)) [1, 2, 3, 4, 0] 7 dL_law_970 rfl rfl (by decide) (by decide) rfl ?_
      refine x_goto 23 dL_law_973 (by decide) ?_
      exact ih (i + 7) R' z' M' N' S' (by omega) (by omega) (by omega) (by omega) h'
    refine x_aload_n (q := 34) dL_law_33 rfl rfl ?_
    refine x_iload (q := 36) dL_law_34 rfl rfl ?_
    refine x_sld (q := 37) hs dL_law_36 rfl (by omega) hL ?_
    refine xn_bipush (q := 39) 15 dL_law_37 rfl (by decide) ?_
    refine x_iand (q := 40) dL_law_39 rfl ?_
    obtain ⟨k, hk, ek⟩ := and15 (iI (ys i))
    show xX G l YL_law 21 lQ 40 _ (.int (iI (ys i) &&& nI 15) :: _) _ _ _
    rw [ek]
    rcases (by omega : k = 15 ∨ k = 0 ∨ k = 1 ∨ k = 2 ∨ k = 3 ∨ k = 4 ∨ k = 5 ∨ k = 6 ∨ k = 7 ∨ k = 8 ∨ k = 9 ∨ k = 10 ∨ k = 11 ∨ k = 12 ∨ k = 13 ∨ k = 14) with rfl | rfl | rfl | rfl | rfl | rfl | rfl | rfl | rfl | rfl | rfl | rfl | rfl | rfl | rfl | rfl
    · exact x_tableOut 970 dL_law_40 (by decide) (by decide) (next R z M N S h (by omega) (by omega))
    · exact x_tableIn 76 116 dL_law_40 (by decide) (by decide) rfl (by decide) (lc_unit hs hL hy hi7 h next)
    · exact x_tableIn 101 141 dL_law_40 (by decide) (by decide) rfl (by decide) (lc_read hs hL hy hi7 h next)
    · exact x_tableIn 114 154 dL_law_40 (by decide) (by decide) rfl (by decide) (lc_member hlt (by omega) (by omega) hs hL hy hi7 h next)
    · exact x_tableIn 265 305 dL_law_40 (by decide) (by decide) rfl (by decide) (lc_support hlt (by omega) (by omega) hs hL hy hi7 h next)
    · exact x_tableIn 368 408 dL_law_40 (by decide) (by decide) rfl (by decide) (lc_hinge hlt (by omega) (by omega) hs hL hy hi7 h next)
    · exact x_tableIn 471 511 dL_law_40 (by decide) (by decide) rfl (by decide) (lc_solve hs hL hy hi7 h next)
    · exact x_tableIn 484 524 dL_law_40 (by decide) (by decide) rfl (by decide) (lc_loose hs hL hy hi7 h next)
    · exact x_tableIn 509 549 dL_law_40 (by decide) (by decide) rfl (by decide) (lc_row hs hL hy hi7 h next)
    · exact x_tableIn 558 598 dL_law_40 (by decide) (by decide) rfl (by decide) (lc_at hs hL hy hi7 h next)
    · exact x_tableIn 620 660 dL_law_40 (by decide) (by decide) rfl (by decide) (lc_area hs hL hy hi7 h next)
    · exact x_tableIn 670 710 dL_law_40 (by decide) (by decide) rfl (by decide) (lc_turned hs hL hy hi7 h next)
    · exact x_tableIn 695 735 dL_law_40 (by decide) (by decide) rfl (by decide) (lc_sums hs hL hy hi7 h next)
    · exact x_tableIn 708 748 dL_law_40 (by decide) (by decide) rfl (by decide) (lc_settled hs hL hy hi7 h next)
    · exact x_tableIn 777 817 dL_law_40 (by decide) (by decide) rfl (by decide) (lc_move hs hL hy hi7 h next)
    · exact x_tableIn 905 945 dL_law_40 (by decide) (by decide) rfl (by decide) (lc_count hs hL hy hi7 h next)
end XW5
