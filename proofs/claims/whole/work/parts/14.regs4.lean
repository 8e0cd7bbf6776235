section XR4
theorem sg_add_same {x y : Int} (hx : x ≠ 0) (h : sg x = sg y) : (x + y).natAbs = x.natAbs + y.natAbs ∧ sg (x + y) = sg x := by
  rcases Int.lt_trichotomy x 0 with e | e | e
  · rcases Int.lt_trichotomy y 0 with f | f | f
    · exact ⟨by omega, by rw [sg_neg e, sg_neg (by omega)]⟩
    · rw [f, sg_neg e] at h; exact absurd h (by decide)
    · rw [sg_neg e, sg_pos f] at h; exact absurd h (by decide)
  · exact absurd e hx
  · rcases Int.lt_trichotomy y 0 with f | f | f
    · rw [sg_pos e, sg_neg f] at h; exact absurd h (by decide)
    · rw [f, sg_pos e] at h; exact absurd h (by decide)
    · exact ⟨by omega, by rw [sg_pos e, sg_pos (by omega)]⟩
theorem sg_add_diff {x y : Int} (hx : x ≠ 0) (hy : y ≠ 0) (h : sg x ≠ sg y) : (y.natAbs ≤ x.natAbs → (x + y).natAbs = x.natAbs - y.natAbs ∧ (x + y ≠ 0 → sg x = sg (x + y))) ∧ (x.natAbs < y.natAbs → (x + y).natAbs = y.natAbs - x.natAbs ∧ (x + y ≠ 0 → sg y = sg (x + y))) := by
  rcases Int.lt_trichotomy x 0 with e | e | e
  · rcases Int.lt_trichotomy y 0 with f | f | f
    · rw [sg_neg e, sg_neg f] at h; exact absurd rfl h
    · exact absurd f hy
    · exact ⟨fun q => ⟨by omega, fun _ => by rw [sg_neg e, sg_neg (by omega)]⟩, fun q => ⟨by omega, fun _ => by rw [sg_pos f, sg_pos (by omega)]⟩⟩
  · exact absurd e hx
  · rcases Int.lt_trichotomy y 0 with f | f | f
    · exact ⟨fun q => ⟨by omega, fun _ => by rw [sg_pos e, sg_pos (by omega)]⟩, fun q => ⟨by omega, fun _ => by rw [sg_neg f, sg_neg (by omega)]⟩⟩
    · exact absurd f hy
    · rw [sg_pos e, sg_pos f] at h; exact absurd rfl h
theorem sg_mul_one (y : Int) : sg y * iI 1 = sg (1 * y) := by
  rw [Int.one_mul]
  show sg y * 1 = sg y
  exact Int32.mul_one _
theorem sg_mul_neg (y : Int) : sg y * iI (-1) = sg ((-1) * y) := by
  rcases Int.lt_trichotomy y 0 with f | f | f
  · rw [sg_neg f, sg_pos (by omega)]; rfl
  · rw [f]; rfl
  · rw [sg_pos f, sg_neg (by omega)]; rfl
/-- another sign of the same number -/
theorem Reg.resign {σ σ' : mS} {t : Nat} {v v' : Int} (h : Reg σ t v) (h1 : σ'.2.1 14 = σ.2.1 14) (h2 : σ'.2.1 15 = σ.2.1 15) (h3 : σ'.2.1 16 t = sg v') (h4 : v'.natAbs = v.natAbs) : Reg σ' t v' := by
  obtain ⟨n, a1, a2, a3, a4, a5⟩ := h
  exact ⟨n, a1, by rw [h4]; exact a2, by rw [h2]; exact a3, h3, fun j hj => by rw [h1, h4]; exact a5 j hj⟩
set_option maxRecDepth 100000 in
set_option maxHeartbeats 4000000 in
theorem c_compare_loop (G : xG) (l : Launch) (o : Nat) (as : Nat → Nat) (M0 : xM) (N S : Nat) (d : Nat) (a b : Nat) (ha : a < 16) (hb : b < 16) (σ : mS) (va vb : Int) (n : Nat) (hn : n ≤ 400) (hla : ∀ j, j < n → σ.2.1 14 (400 * a + j) = nI (dg va.natAbs j)) (hlb : ∀ j, j < n → σ.2.1 14 (400 * b + j) = nI (dg vb.natAbs j)) (M : xM) (hM : mAt o as σ M0 M) :
    ∀ i, i ≤ n → va.natAbs / B9 ^ i = vb.natAbs / B9 ^ i → xX G l YX9_compare d (mQ o as M0 N S (fun x σ' => σ' = σ ∧ ∃ z : Int, x = some (.int (iI z)) ∧ -2147483648 ≤ z ∧ z < 2147483648 ∧ (z < 0 ↔ va.natAbs < vb.natAbs) ∧ (z = 0 ↔ va.natAbs = vb.natAbs))) 38 [(0, .ref o), (1, .int (nI a)), (2, .int (nI b)), (3, .int (nI i + (-1)))] [] M N S := by
  intro i
  induction i with
  | zero =>
    intro hi he
    rw [Nat.pow_zero, Nat.div_one, Nat.div_one] at he
    refine x_iload_n (q := 39) dX9_compare_38 rfl rfl ?_
    refine x_if_lt (q := 42) 83 dX9_compare_39 (by decide) rfl (fun hc39 => ?_) (fun hc39 => absurd (by decide) hc39)
    refine x_iconst (q := 84) (iI (0)) dX9_compare_83 rfl (by decide) ?_
    exact x_iret rfl dX9_compare_84 (m_ret hM ⟨rfl, 0, rfl, by decide, by decide, by omega, by omega⟩)
  | succ i ih =>
    intro hi he
    rw [pk_m1]
    have hB9 : B9 = 1000000000 := rfl
    have hla' := hla i (by omega)
    have hlb' := hlb i (by omega)
    have hda := dg_lt va.natAbs i
    have hdb := dg_lt vb.natAbs i
    refine x_iload_n (q := 39) dX9_compare_38 rfl rfl ?_
    refine xn_if_lt (q := 42) 83 dX9_compare_39 (by decide) rfl (by omega) (fun hc39 => absurd hc39 (by omega)) (fun hc39 => ?_)
    refine x_aload_n (q := 43) dX9_compare_42 rfl rfl ?_
    refine m_get (q := 46) hM 14 fwX9_41 (by decide) dX9_compare_43 rfl rfl ?_
    refine xn_sipush (q := 49) 400 dX9_compare_46 rfl (by decide) ?_
    refine x_iload_n (q := 50) dX9_compare_49 rfl rfl ?_
    refine xn_imul (q := 51) dX9_compare_50 rfl ?_
    refine x_iload_n (q := 52) dX9_compare_51 rfl rfl ?_
    refine xn_iadd (q := 53) dX9_compare_52 rfl ?_
    refine m_iald (q := 54) hM (n := 6400) (by decide) dX9_compare_53 rfl (by omega) ?_
    rw [hla']
    refine x_aload_n (q := 55) dX9_compare_54 rfl rfl ?_
    refine m_get (q := 58) hM 14 fwX9_41 (by decide) dX9_compare_55 rfl rfl ?_
    refine xn_sipush (q := 61) 400 dX9_compare_58 rfl (by decide) ?_
    refine x_iload_n (q := 62) dX9_compare_61 rfl rfl ?_
    refine xn_imul (q := 63) dX9_compare_62 rfl ?_
    refine x_iload_n (q := 64) dX9_compare_63 rfl rfl ?_
    refine xn_iadd (q := 65) dX9_compare_64 rfl ?_
    refine m_iald (q := 66) hM (n := 6400) (by decide) dX9_compare_65 rfl (by omega) ?_
    rw [hlb']
    refine xi_isub (q := 67) dX9_compare_66 rfl (nI_i _) (nI_i _) ?_
    refine x_istore (q := 69) (ls' := [(0, _), (1, _), (2, _), (3, _), (4, _)]) [1, 2, 3, 4, 0] dX9_compare_67 rfl (by decide) rfl ?_
    refine x_iload (q := 71) dX9_compare_69 rfl rfl ?_
    refine xi_if_eq (q := 74) 77 dX9_compare_71 (by decide) rfl rfl (by omega) (by omega) (fun hc71 => ?_) (fun hc71 => ?_)
    · refine x_iinc (q := 80) (ls' := [(0, _), (1, _), (2, _), (3, _), (4, _)]) [1, 2, 3, 0, 4] (-1) dX9_compare_77 rfl rfl (by decide) (by decide) rfl ?_
      refine x_goto 38 dX9_compare_80 (by decide) ?_
      refine x_ls (ls' := [(0, _), (1, _), (2, _), (3, _)]) [0, 1, 2, 3] rfl ?_
      refine ih (by omega) ?_
      rw [div_dg va.natAbs i, div_dg vb.natAbs i, he]
      omega
    · refine x_iload (q := 76) dX9_compare_74 rfl rfl ?_
      have q1 := div_dg va.natAbs i
      have q2 := div_dg vb.natAbs i
      rw [he] at q1
      have q3 : va.natAbs / B9 ^ i < vb.natAbs / B9 ^ i → va.natAbs < vb.natAbs := div_succ_lt
      have q4 : vb.natAbs / B9 ^ i < va.natAbs / B9 ^ i → vb.natAbs < va.natAbs := div_succ_lt
      generalize va.natAbs / B9 ^ i = x at *
      generalize vb.natAbs / B9 ^ i = y at *
      generalize vb.natAbs / B9 ^ (i + 1) * B9 = w at *
      refine x_iret rfl dX9_compare_76 (m_ret hM ⟨rfl, _, rfl, by omega, by omega, ?_, ?_⟩)
      · constructor
        · intro h; exact q3 (by omega)
        · intro h
          rcases Nat.lt_or_ge (dg va.natAbs i) (dg vb.natAbs i) with g | g
          · omega
          · have := q4 (by omega); omega
      · constructor
        · intro h; exact absurd h hc71
        · intro h
          rcases Nat.lt_trichotomy (dg va.natAbs i) (dg vb.natAbs i) with g | g | g
          · have := q3 (by omega); omega
          · omega
          · have := q4 (by omega); omega
set_option maxRecDepth 100000 in
set_option maxHeartbeats 4000000 in
theorem c_compare (G : xG) (l : Launch) (o : Nat) (as : Nat → Nat) (M0 : xM) (N S : Nat) (d : Nat) (a b : Nat) (ha : a < 16) (hb : b < 16) (σ : mS) (va vb : Int) (hva : Reg σ a va) (hvb : Reg σ b vb) : mC G l o as M0 N S YX9_compare d [.int (nI a), .int (nI b)] σ (fun x σ' => σ' = σ ∧ ∃ z : Int, x = some (.int (iI z)) ∧ -2147483648 ≤ z ∧ z < 2147483648 ∧ (z < 0 ↔ va.natAbs < vb.natAbs) ∧ (z = 0 ↔ va.natAbs = vb.natAbs)) := by
  obtain ⟨na, hna4, hna, hza, hga, hla⟩ := hva
  obtain ⟨nb, hnb4, hnb, hzb, hgb, hlb⟩ := hvb
  refine mC.of (ls := [(0, .ref o), (1, .int (nI a)), (2, .int (nI b))]) (by decide) (Nat.le_of_ble_eq_true rfl) rfl fun M hM => ?_
  refine x_aload_n (q := 1) dX9_compare_0 rfl rfl ?_
  refine m_get (q := 4) hM 15 fwX9_44 (by decide) dX9_compare_1 rfl rfl ?_
  refine x_iload_n (q := 5) dX9_compare_4 rfl rfl ?_
  refine m_iald (q := 6) hM (n := 16) (by decide) dX9_compare_5 rfl (by omega) ?_
  rw [hza]
  refine x_aload_n (q := 7) dX9_compare_6 rfl rfl ?_
  refine m_get (q := 10) hM 15 fwX9_44 (by decide) dX9_compare_7 rfl rfl ?_
  refine x_iload_n (q := 11) dX9_compare_10 rfl rfl ?_
  refine m_iald (q := 12) hM (n := 16) (by decide) dX9_compare_11 rfl (by omega) ?_
  rw [hzb]
  refine xn_icmp_eq (q := 15) 29 dX9_compare_12 (by decide) rfl (by omega) (by omega) (fun hc12 => ?_) (fun hc12 => ?_)
  · refine x_aload_n (q := 30) dX9_compare_29 rfl rfl ?_
    refine m_get (q := 33) hM 15 fwX9_44 (by decide) dX9_compare_30 rfl rfl ?_
    refine x_iload_n (q := 34) dX9_compare_33 rfl rfl ?_
    refine m_iald (q := 35) hM (n := 16) (by decide) dX9_compare_34 rfl (by omega) ?_
    rw [hza]
    refine x_iconst (q := 36) (1) dX9_compare_35 rfl (by decide) ?_
    refine x_isub (q := 37) dX9_compare_36 rfl ?_
    refine x_topi (Int32.sub_eq_add_neg ..) ?_
    refine x_istore_n (q := 38) (ls' := [(0, _), (1, _), (2, _), (3, _)]) [1, 2, 3, 0] dX9_compare_37 rfl (by decide) rfl ?_
    subst hc12
    exact c_compare_loop G l o as M0 N S d a b ha hb σ va vb na hna4 hla hlb M hM na (Nat.le_refl _) (by rw [Nat.div_eq_of_lt hna.1, Nat.div_eq_of_lt hnb.1])
  · refine x_aload_n (q := 16) dX9_compare_15 rfl rfl ?_
    refine m_get (q := 19) hM 15 fwX9_44 (by decide) dX9_compare_16 rfl rfl ?_
    refine x_iload_n (q := 20) dX9_compare_19 rfl rfl ?_
    refine m_iald (q := 21) hM (n := 16) (by decide) dX9_compare_20 rfl (by omega) ?_
    rw [hza]
    refine x_aload_n (q := 22) dX9_compare_21 rfl rfl ?_
    refine m_get (q := 25) hM 15 fwX9_44 (by decide) dX9_compare_22 rfl rfl ?_
    refine x_iload_n (q := 26) dX9_compare_25 rfl rfl ?_
    refine m_iald (q := 27) hM (n := 16) (by decide) dX9_compare_26 rfl (by omega) ?_
    rw [hzb]
    refine xi_isub (q := 28) dX9_compare_27 rfl (nI_i _) (nI_i _) ?_
    have q1 : na < nb → va.natAbs < vb.natAbs := nl_lt hna hnb
    have q2 : nb < na → vb.natAbs < va.natAbs := nl_lt hnb hna
    refine x_iret rfl dX9_compare_28 (m_ret hM ⟨rfl, _, rfl, by omega, by omega, ?_, ?_⟩)
    · constructor
      · intro h; exact q1 (by omega)
      · intro h; rcases Nat.lt_or_ge na nb with g | g
        · omega
        · have := q2 (by omega); omega
    · constructor
      · intro h; omega
      · intro h; rcases Nat.lt_or_ge na nb with g | g
        · have := q1 g; omega
        · have := q2 (by omega); omega
set_option maxRecDepth 100000 in
set_option maxHeartbeats 4000000 in
theorem c_add (G : xG) (l : Launch) (o : Nat) (as : Nat → Nat) (M0 : xM) (N S : Nat) (d : Nat) (a b t : Nat) (ha : a < 16) (hb : b < 16) (ht : t < 16) (hat : a ≠ t) (hbt : b ≠ t) (σ : mS) (va vb τ : Int) (tm : Int32) (hva : Reg σ a va) (hvb : Reg σ b vb) (hτ : τ = 1 ∨ τ = -1) (htm : tm = iI τ) (hA : va.natAbs < B9 ^ 399) (hB : vb.natAbs < B9 ^ 399) : mC G l o as M0 N S YX9_add (d + 2) [.int (nI a), .int (nI b), .int tm, .int (nI t)] σ (fun x σ' => x = none ∧ keep t σ σ' ∧ Reg σ' t (va + τ * vb)) := by
  have hsb : sg vb * tm = sg (τ * vb) := by
    rcases hτ with e | e <;> subst e <;> subst htm
    · exact sg_mul_one vb
    · exact sg_mul_neg vb
  have hnb : (τ * vb).natAbs = vb.natAbs := by rcases hτ with e | e <;> subst e <;> omega
  have hτ0 : τ * vb = 0 ↔ vb = 0 := by omega
  generalize τ * vb = wb at *
  have hga : σ.2.1 16 a = sg va := hva.choose_spec.2.2.2.1
  have hgb : σ.2.1 16 b = sg vb := hvb.choose_spec.2.2.2.1
  refine mC.of (ls := [(0, .ref o), (1, .int (nI a)), (2, .int (nI b)), (3, .int tm), (4, .int (nI t))]) (by decide) (Nat.le_of_ble_eq_true rfl) rfl fun M hM => ?_
  refine x_aload_n (q := 1) dX9_add_0 rfl rfl ?_
  refine m_get (q := 4) hM 16 fwX9_47 (by decide) dX9_add_1 rfl rfl ?_
  refine x_iload_n (q := 5) dX9_add_4 rfl rfl ?_
  refine m_iald (q := 6) hM (n := 16) (by decide) dX9_add_5 rfl (by omega) ?_
  rw [hga]
  refine x_istore (q := 8) (ls' := [(0, _), (1, _), (2, _), (3, _), (4, _), (5, _)]) [1, 2, 3, 4, 5, 0] dX9_add_6 rfl (by decide) rfl ?_
  refine x_aload_n (q := 9) dX9_add_8 rfl rfl ?_
  refine m_get (q := 12) hM 16 fwX9_47 (by decide) dX9_add_9 rfl rfl ?_
  refine x_iload_n (q := 13) dX9_add_12 rfl rfl ?_
  refine m_iald (q := 14) hM (n := 16) (by decide) dX9_add_13 rfl (by omega) ?_
  rw [hgb]
  refine x_iload_n (q := 15) dX9_add_14 rfl rfl ?_
  refine x_imul (q := 16) dX9_add_15 rfl ?_
  refine x_topi hsb ?_
  refine x_istore (q := 18) (ls' := [(0, _), (1, _), (2, _), (3, _), (4, _), (5, _), (6, _)]) [1, 2, 3, 4, 5, 6, 0] dX9_add_16 rfl (by decide) rfl ?_
  refine x_iload (q := 20) dX9_add_18 rfl rfl ?_
  refine x_if_eq (q := 23) 28 dX9_add_20 (by decide) rfl (fun hc20 => ?_) (fun hc20 => ?_)
  · refine x_aload_n (q := 29) dX9_add_28 rfl rfl ?_
    refine x_iload (q := 31) dX9_add_29 rfl rfl ?_
    refine x_if_ne (q := 34) 38 dX9_add_31 (by decide) rfl (fun hc31 => ?_) (fun hc31 => ?_)
    · refine x_iload_n (q := 39) dX9_add_38 rfl rfl ?_
      refine x_iload (q := 41) dX9_add_39 rfl rfl ?_
      refine m_call (q := 44) (As := [_, _]) hM imX9_copy ivX9_copy ilX9_copy mwX9_107 xciX9 dX9_add_41 rfl rfl rfl (by decide) ?_
      first | refine (c_copy G l o as M0 N S (d + 1) b t hb ht hbt σ vb hvb).mono (fun x σ9 hp => ?_) | refine (c_copy G l o as M0 N S (d + 1) a t ha ht hat σ va hva).mono (fun x σ9 hp => ?_)
      obtain ⟨rfl, k9, r9⟩ := hp
      intro M hM
      show xX G l _ (d + 2) _ _ _ [] M N S
      refine x_aload_n (q := 45) dX9_add_44 rfl rfl ?_
      refine m_get (q := 48) hM 16 fwX9_47 (by decide) dX9_add_45 rfl rfl ?_
      refine x_iload (q := 50) dX9_add_48 rfl rfl ?_
      refine x_iload (q := 52) dX9_add_50 rfl rfl ?_
      refine x_if_ne (q := 55) 60 dX9_add_52 (by decide) rfl (fun hc52 => ?_) (fun hc52 => ?_)
      · refine x_iload (q := 62) dX9_add_60 rfl rfl ?_
        refine m_sign (q := 63) hM dX9_add_62 rfl (by omega) (fun M σ62 k62 e62 f62 g62 hM => ?_)
        have g0 : σ62.2.1 16 t = _ := e62
        first
        | contradiction
        | exact x_vret rfl dX9_add_63 (m_ret hM ⟨rfl, k9.trans k62, r9.resign f62 g62 (by rw [e62, sg_eq_zero.mp ‹sg va = 0›, Int.zero_add]) (by rw [sg_eq_zero.mp ‹sg va = 0›, Int.zero_add, hnb])⟩)
        | exact x_vret rfl dX9_add_63 (m_ret hM ⟨rfl, k9.trans k62, r9.resign f62 g62 (by rw [e62, sg_eq_zero.mp ‹sg wb = 0›, Int.add_zero]) (by rw [sg_eq_zero.mp ‹sg wb = 0›, Int.add_zero])⟩)
      · refine x_iload (q := 57) dX9_add_55 rfl rfl ?_
        refine x_goto 62 dX9_add_57 (by decide) ?_
        refine m_sign (q := 63) hM dX9_add_62 rfl (by omega) (fun M σ62 k62 e62 f62 g62 hM => ?_)
        have g0 : σ62.2.1 16 t = _ := e62
        first
        | contradiction
        | exact x_vret rfl dX9_add_63 (m_ret hM ⟨rfl, k9.trans k62, r9.resign f62 g62 (by rw [e62, sg_eq_zero.mp ‹sg va = 0›, Int.zero_add]) (by rw [sg_eq_zero.mp ‹sg va = 0›, Int.zero_add, hnb])⟩)
        | exact x_vret rfl dX9_add_63 (m_ret hM ⟨rfl, k9.trans k62, r9.resign f62 g62 (by rw [e62, sg_eq_zero.mp ‹sg wb = 0›, Int.add_zero]) (by rw [sg_eq_zero.mp ‹sg wb = 0›, Int.add_zero])⟩)
    · refine x_iload_n (q := 35) dX9_add_34 rfl rfl ?_
      refine x_goto 39 dX9_add_35 (by decide) ?_
      refine x_iload (q := 41) dX9_add_39 rfl rfl ?_
      refine m_call (q := 44) (As := [_, _]) hM imX9_copy ivX9_copy ilX9_copy mwX9_107 xciX9 dX9_add_41 rfl rfl rfl (by decide) ?_
      first | refine (c_copy G l o as M0 N S (d + 1) b t hb ht hbt σ vb hvb).mono (fun x σ9 hp => ?_) | refine (c_copy G l o as M0 N S (d + 1) a t ha ht hat σ va hva).mono (fun x σ9 hp => ?_)
      obtain ⟨rfl, k9, r9⟩ := hp
      intro M hM
      show xX G l _ (d + 2) _ _ _ [] M N S
      refine x_aload_n (q := 45) dX9_add_44 rfl rfl ?_
      refine m_get (q := 48) hM 16 fwX9_47 (by decide) dX9_add_45 rfl rfl ?_
      refine x_iload (q := 50) dX9_add_48 rfl rfl ?_
      refine x_iload (q := 52) dX9_add_50 rfl rfl ?_
      refine x_if_ne (q := 55) 60 dX9_add_52 (by decide) rfl (fun hc52 => ?_) (fun hc52 => ?_)
      · refine x_iload (q := 62) dX9_add_60 rfl rfl ?_
        refine m_sign (q := 63) hM dX9_add_62 rfl (by omega) (fun M σ62 k62 e62 f62 g62 hM => ?_)
        have g0 : σ62.2.1 16 t = _ := e62
        first
        | contradiction
        | exact x_vret rfl dX9_add_63 (m_ret hM ⟨rfl, k9.trans k62, r9.resign f62 g62 (by rw [e62, sg_eq_zero.mp ‹sg va = 0›, Int.zero_add]) (by rw [sg_eq_zero.mp ‹sg va = 0›, Int.zero_add, hnb])⟩)
        | exact x_vret rfl dX9_add_63 (m_ret hM ⟨rfl, k9.trans k62, r9.resign f62 g62 (by rw [e62, sg_eq_zero.mp ‹sg wb = 0›, Int.add_zero]) (by rw [sg_eq_zero.mp ‹sg wb = 0›, Int.add_zero])⟩)
      · refine x_iload (q := 57) dX9_add_55 rfl rfl ?_
        refine x_goto 62 dX9_add_57 (by decide) ?_
        refine m_sign (q := 63) hM dX9_add_62 rfl (by omega) (fun M σ62 k62 e62 f62 g62 hM => ?_)
        have g0 : σ62.2.1 16 t = _ := e62
        first
        | contradiction
        | exact x_vret rfl dX9_add_63 (m_ret hM ⟨rfl, k9.trans k62, r9.resign f62 g62 (by rw [e62, sg_eq_zero.mp ‹sg va = 0›, Int.zero_add]) (by rw [sg_eq_zero.mp ‹sg va = 0›, Int.zero_add, hnb])⟩)
        | exact x_vret rfl dX9_add_63 (m_ret hM ⟨rfl, k9.trans k62, r9.resign f62 g62 (by rw [e62, sg_eq_zero.mp ‹sg wb = 0›, Int.add_zero]) (by rw [sg_eq_zero.mp ‹sg wb = 0›, Int.add_zero])⟩)
  · refine x_iload (q := 25) dX9_add_23 rfl rfl ?_
    refine x_if_ne (q := 28) 64 dX9_add_25 (by decide) rfl (fun hc25 => ?_) (fun hc25 => ?_)
    · refine x_iload (q := 66) dX9_add_64 rfl rfl ?_
      refine x_iload (q := 68) dX9_add_66 rfl rfl ?_
      refine x_icmp_ne (q := 71) 89 dX9_add_68 (by decide) rfl (fun hc68 => ?_) (fun hc68 => ?_)
      · refine x_aload_n (q := 90) dX9_add_89 rfl rfl ?_
        refine x_iload_n (q := 91) dX9_add_90 rfl rfl ?_
        refine x_iload_n (q := 92) dX9_add_91 rfl rfl ?_
        refine m_call (q := 95) (As := [_, _]) hM imX9_compare ivX9_compare ilX9_compare mwX9_114 xciX9 dX9_add_92 rfl rfl rfl (by decide) ?_
        refine (c_compare G l o as M0 N S (d + 1) a b ha hb σ va vb hva hvb).mono (fun x σ9 hp => ?_)
        obtain ⟨rfl, z, rfl, z1, z2, z3, z4⟩ := hp
        intro M hM
        show xX G l _ (d + 2) _ _ _ [.int (iI z)] M N S
        have hs := sg_add_diff (x := va) (y := wb) (fun e => hc20 (sg_eq_zero.mpr e)) (fun e => hc25 (sg_eq_zero.mpr e)) hc68
        refine xi_if_lt (q := 98) 102 dX9_add_95 (by decide) rfl rfl (by omega) (by omega) (fun hc95 => ?_) (fun hc95 => ?_)
        · refine xn_iconst (q := 103) 0 dX9_add_102 rfl (by decide) ?_
          refine x_istore (q := 105) (ls' := [(0, _), (1, _), (2, _), (3, _), (4, _), (5, _), (6, _), (7, _)]) [1, 2, 3, 4, 5, 6, 7, 0] dX9_add_103 rfl (by decide) rfl ?_
          refine x_aload_n (q := 106) dX9_add_105 rfl rfl ?_
          refine m_get (q := 109) hM 16 fwX9_47 (by decide) dX9_add_106 rfl rfl ?_
          refine x_iload (q := 111) dX9_add_109 rfl rfl ?_
          refine x_iload (q := 113) dX9_add_111 rfl rfl ?_
          refine xn_if_eq (q := 116) 121 dX9_add_113 (by decide) rfl (by omega) (fun hc113 => ?_) (fun hc113 => absurd hc113 (by decide))
          refine x_iload (q := 123) dX9_add_121 rfl rfl ?_
          refine m_sign (q := 124) hM dX9_add_123 rfl (by omega) (fun M σ123 k123 e123 f123 g123 hM => ?_)
          refine x_aload_n (q := 125) dX9_add_124 rfl rfl ?_
          refine x_iload (q := 127) dX9_add_125 rfl rfl ?_
          refine xn_if_eq (q := 130) 134 dX9_add_127 (by decide) rfl (by omega) (fun hc127 => ?_) (fun hc127 => absurd hc127 (by decide))
          refine x_iload_n (q := 135) dX9_add_134 rfl rfl ?_
          refine x_iload (q := 137) dX9_add_135 rfl rfl ?_
          refine xn_if_eq (q := 140) 144 dX9_add_137 (by decide) rfl (by omega) (fun hc137 => ?_) (fun hc137 => absurd hc137 (by decide))
          refine x_iload_n (q := 145) dX9_add_144 rfl rfl ?_
          refine x_iload (q := 147) dX9_add_145 rfl rfl ?_
          refine m_call (q := 150) (As := [_, _, _]) hM imX9_apart ivX9_apart ilX9_apart mwX9_118 xciX9 dX9_add_147 rfl rfl rfl (by decide) ?_
          first
          | refine (c_apart G l o as M0 N S d a b t ha hb ht hat hbt σ123 va vb (va + wb) (k123.reg hat hva) (k123.reg hbt hvb) (by omega) (by rw [(hs.1 (by omega)).1, hnb]) (fun e => by rw [e123]; exact (hs.1 (by omega)).2 e)).mono (fun x σ9 hp => ?_)
          | refine (c_apart G l o as M0 N S d b a t hb ha ht hbt hat σ123 vb va (va + wb) (k123.reg hbt hvb) (k123.reg hat hva) (by omega) (by rw [(hs.2 (by omega)).1, hnb]) (fun e => by rw [e123]; exact (hs.2 (by omega)).2 e)).mono (fun x σ9 hp => ?_)
          obtain ⟨rfl, k9, r9⟩ := hp
          intro M hM
          show xX G l _ (d + 2) _ _ _ [] M N S
          exact x_vret rfl dX9_add_150 (m_ret hM ⟨rfl, k123.trans k9, r9⟩)
        · refine xn_iconst (q := 99) 1 dX9_add_98 rfl (by decide) ?_
          refine x_goto 103 dX9_add_99 (by decide) ?_
          refine x_istore (q := 105) (ls' := [(0, _), (1, _), (2, _), (3, _), (4, _), (5, _), (6, _), (7, _)]) [1, 2, 3, 4, 5, 6, 7, 0] dX9_add_103 rfl (by decide) rfl ?_
          refine x_aload_n (q := 106) dX9_add_105 rfl rfl ?_
          refine m_get (q := 109) hM 16 fwX9_47 (by decide) dX9_add_106 rfl rfl ?_
          refine x_iload (q := 111) dX9_add_109 rfl rfl ?_
          refine x_iload (q := 113) dX9_add_111 rfl rfl ?_
          refine xn_if_eq (q := 116) 121 dX9_add_113 (by decide) rfl (by omega) (fun hc113 => absurd hc113 (by decide)) (fun hc113 => ?_)
          refine x_iload (q := 118) dX9_add_116 rfl rfl ?_
          refine x_goto 123 dX9_add_118 (by decide) ?_
          refine m_sign (q := 124) hM dX9_add_123 rfl (by omega) (fun M σ123 k123 e123 f123 g123 hM => ?_)
          refine x_aload_n (q := 125) dX9_add_124 rfl rfl ?_
          refine x_iload (q := 127) dX9_add_125 rfl rfl ?_
          refine xn_if_eq (q := 130) 134 dX9_add_127 (by decide) rfl (by omega) (fun hc127 => absurd hc127 (by decide)) (fun hc127 => ?_)
          refine x_iload_n (q := 131) dX9_add_130 rfl rfl ?_
          refine x_goto 135 dX9_add_131 (by decide) ?_
          refine x_iload (q := 137) dX9_add_135 rfl rfl ?_
          refine xn_if_eq (q := 140) 144 dX9_add_137 (by decide) rfl (by omega) (fun hc137 => absurd hc137 (by decide)) (fun hc137 => ?_)
          refine x_iload_n (q := 141) dX9_add_140 rfl rfl ?_
          refine x_goto 145 dX9_add_141 (by decide) ?_
          refine x_iload (q := 147) dX9_add_145 rfl rfl ?_
          refine m_call (q := 150) (As := [_, _, _]) hM imX9_apart ivX9_apart ilX9_apart mwX9_118 xciX9 dX9_add_147 rfl rfl rfl (by decide) ?_
          first
          | refine (c_apart G l o as M0 N S d a b t ha hb ht hat hbt σ123 va vb (va + wb) (k123.reg hat hva) (k123.reg hbt hvb) (by omega) (by rw [(hs.1 (by omega)).1, hnb]) (fun e => by rw [e123]; exact (hs.1 (by omega)).2 e)).mono (fun x σ9 hp => ?_)
          | refine (c_apart G l o as M0 N S d b a t hb ha ht hbt hat σ123 vb va (va + wb) (k123.reg hbt hvb) (k123.reg hat hva) (by omega) (by rw [(hs.2 (by omega)).1, hnb]) (fun e => by rw [e123]; exact (hs.2 (by omega)).2 e)).mono (fun x σ9 hp => ?_)
          obtain ⟨rfl, k9, r9⟩ := hp
          intro M hM
          show xX G l _ (d + 2) _ _ _ [] M N S
          exact x_vret rfl dX9_add_150 (m_ret hM ⟨rfl, k123.trans k9, r9⟩)
      · refine x_aload_n (q := 72) dX9_add_71 rfl rfl ?_
        refine m_get (q := 75) hM 16 fwX9_47 (by decide) dX9_add_72 rfl rfl ?_
        refine x_iload (q := 77) dX9_add_75 rfl rfl ?_
        refine x_iload (q := 79) dX9_add_77 rfl rfl ?_
        refine m_sign (q := 80) hM dX9_add_79 rfl (by omega) (fun M σ79 k79 e79 f79 g79 hM => ?_)
        refine x_aload_n (q := 81) dX9_add_80 rfl rfl ?_
        refine x_iload_n (q := 82) dX9_add_81 rfl rfl ?_
        refine x_iload_n (q := 83) dX9_add_82 rfl rfl ?_
        refine x_iload (q := 85) dX9_add_83 rfl rfl ?_
        refine m_call (q := 88) (As := [_, _, _]) hM imX9_together ivX9_together ilX9_together mwX9_110 xciX9 dX9_add_85 rfl rfl rfl (by decide) ?_
        have hs := sg_add_same (x := va) (y := wb) (fun e => hc20 (sg_eq_zero.mpr e)) hc68
        refine (c_together G l o as M0 N S d a b t ha hb ht hat hbt σ79 va vb (va + wb) (k79.reg hat hva) (k79.reg hbt hvb) hA hB (by rw [hs.1, hnb]) (by rw [e79, hs.2])).mono (fun x σ9 hp => ?_)
        obtain ⟨rfl, k9, r9⟩ := hp
        intro M hM
        show xX G l _ (d + 2) _ _ _ [] M N S
        exact x_vret rfl dX9_add_88 (m_ret hM ⟨rfl, k79.trans k9, r9⟩)
    · refine x_aload_n (q := 29) dX9_add_28 rfl rfl ?_
      refine x_iload (q := 31) dX9_add_29 rfl rfl ?_
      refine x_if_ne (q := 34) 38 dX9_add_31 (by decide) rfl (fun hc31 => ?_) (fun hc31 => ?_)
      · refine x_iload_n (q := 39) dX9_add_38 rfl rfl ?_
        refine x_iload (q := 41) dX9_add_39 rfl rfl ?_
        refine m_call (q := 44) (As := [_, _]) hM imX9_copy ivX9_copy ilX9_copy mwX9_107 xciX9 dX9_add_41 rfl rfl rfl (by decide) ?_
        first | refine (c_copy G l o as M0 N S (d + 1) b t hb ht hbt σ vb hvb).mono (fun x σ9 hp => ?_) | refine (c_copy G l o as M0 N S (d + 1) a t ha ht hat σ va hva).mono (fun x σ9 hp => ?_)
        obtain ⟨rfl, k9, r9⟩ := hp
        intro M hM
        show xX G l _ (d + 2) _ _ _ [] M N S
        refine x_aload_n (q := 45) dX9_add_44 rfl rfl ?_
        refine m_get (q := 48) hM 16 fwX9_47 (by decide) dX9_add_45 rfl rfl ?_
        refine x_iload (q := 50) dX9_add_48 rfl rfl ?_
        refine x_iload (q := 52) dX9_add_50 rfl rfl ?_
        refine x_if_ne (q := 55) 60 dX9_add_52 (by decide) rfl (fun hc52 => ?_) (fun hc52 => ?_)
        · refine x_iload (q := 62) dX9_add_60 rfl rfl ?_
          refine m_sign (q := 63) hM dX9_add_62 rfl (by omega) (fun M σ62 k62 e62 f62 g62 hM => ?_)
          have g0 : σ62.2.1 16 t = _ := e62
          first
          | contradiction
          | exact x_vret rfl dX9_add_63 (m_ret hM ⟨rfl, k9.trans k62, r9.resign f62 g62 (by rw [e62, sg_eq_zero.mp ‹sg va = 0›, Int.zero_add]) (by rw [sg_eq_zero.mp ‹sg va = 0›, Int.zero_add, hnb])⟩)
          | exact x_vret rfl dX9_add_63 (m_ret hM ⟨rfl, k9.trans k62, r9.resign f62 g62 (by rw [e62, sg_eq_zero.mp ‹sg wb = 0›, Int.add_zero]) (by rw [sg_eq_zero.mp ‹sg wb = 0›, Int.add_zero])⟩)
        · refine x_iload (q := 57) dX9_add_55 rfl rfl ?_
          refine x_goto 62 dX9_add_57 (by decide) ?_
          refine m_sign (q := 63) hM dX9_add_62 rfl (by omega) (fun M σ62 k62 e62 f62 g62 hM => ?_)
          have g0 : σ62.2.1 16 t = _ := e62
          first
          | contradiction
          | exact x_vret rfl dX9_add_63 (m_ret hM ⟨rfl, k9.trans k62, r9.resign f62 g62 (by rw [e62, sg_eq_zero.mp ‹sg va = 0›, Int.zero_add]) (by rw [sg_eq_zero.mp ‹sg va = 0›, Int.zero_add, hnb])⟩)
          | exact x_vret rfl dX9_add_63 (m_ret hM ⟨rfl, k9.trans k62, r9.resign f62 g62 (by rw [e62, sg_eq_zero.mp ‹sg wb = 0›, Int.add_zero]) (by rw [sg_eq_zero.mp ‹sg wb = 0›, Int.add_zero])⟩)
      · refine x_iload_n (q := 35) dX9_add_34 rfl rfl ?_
        refine x_goto 39 dX9_add_35 (by decide) ?_
        refine x_iload (q := 41) dX9_add_39 rfl rfl ?_
        refine m_call (q := 44) (As := [_, _]) hM imX9_copy ivX9_copy ilX9_copy mwX9_107 xciX9 dX9_add_41 rfl rfl rfl (by decide) ?_
        first | refine (c_copy G l o as M0 N S (d + 1) b t hb ht hbt σ vb hvb).mono (fun x σ9 hp => ?_) | refine (c_copy G l o as M0 N S (d + 1) a t ha ht hat σ va hva).mono (fun x σ9 hp => ?_)
        obtain ⟨rfl, k9, r9⟩ := hp
        intro M hM
        show xX G l _ (d + 2) _ _ _ [] M N S
        refine x_aload_n (q := 45) dX9_add_44 rfl rfl ?_
        refine m_get (q := 48) hM 16 fwX9_47 (by decide) dX9_add_45 rfl rfl ?_
        refine x_iload (q := 50) dX9_add_48 rfl rfl ?_
        refine x_iload (q := 52) dX9_add_50 rfl rfl ?_
        refine x_if_ne (q := 55) 60 dX9_add_52 (by decide) rfl (fun hc52 => ?_) (fun hc52 => ?_)
        · refine x_iload (q := 62) dX9_add_60 rfl rfl ?_
          refine m_sign (q := 63) hM dX9_add_62 rfl (by omega) (fun M σ62 k62 e62 f62 g62 hM => ?_)
          have g0 : σ62.2.1 16 t = _ := e62
          first
          | contradiction
          | exact x_vret rfl dX9_add_63 (m_ret hM ⟨rfl, k9.trans k62, r9.resign f62 g62 (by rw [e62, sg_eq_zero.mp ‹sg va = 0›, Int.zero_add]) (by rw [sg_eq_zero.mp ‹sg va = 0›, Int.zero_add, hnb])⟩)
          | exact x_vret rfl dX9_add_63 (m_ret hM ⟨rfl, k9.trans k62, r9.resign f62 g62 (by rw [e62, sg_eq_zero.mp ‹sg wb = 0›, Int.add_zero]) (by rw [sg_eq_zero.mp ‹sg wb = 0›, Int.add_zero])⟩)
        · refine x_iload (q := 57) dX9_add_55 rfl rfl ?_
          refine x_goto 62 dX9_add_57 (by decide) ?_
          refine m_sign (q := 63) hM dX9_add_62 rfl (by omega) (fun M σ62 k62 e62 f62 g62 hM => ?_)
          have g0 : σ62.2.1 16 t = _ := e62
          first
          | contradiction
          | exact x_vret rfl dX9_add_63 (m_ret hM ⟨rfl, k9.trans k62, r9.resign f62 g62 (by rw [e62, sg_eq_zero.mp ‹sg va = 0›, Int.zero_add]) (by rw [sg_eq_zero.mp ‹sg va = 0›, Int.zero_add, hnb])⟩)
          | exact x_vret rfl dX9_add_63 (m_ret hM ⟨rfl, k9.trans k62, r9.resign f62 g62 (by rw [e62, sg_eq_zero.mp ‹sg wb = 0›, Int.add_zero]) (by rw [sg_eq_zero.mp ‹sg wb = 0›, Int.add_zero])⟩)
end XR4
