section XV
/-- nothing but these registers has changed -/
def keeps (L : List Nat) (σ σ' : mS) : Prop := σ'.1 = σ.1 ∧ σ'.2.2 = σ.2.2 ∧ (∀ k, k ≠ 14 → k ≠ 15 → k ≠ 16 → σ'.2.1 k = σ.2.1 k) ∧ ∀ r, r ∉ L → σ'.2.1 15 r = σ.2.1 15 r ∧ σ'.2.1 16 r = σ.2.1 16 r ∧ ∀ j, j < 400 → σ'.2.1 14 (400 * r + j) = σ.2.1 14 (400 * r + j)
theorem keep.s {b : Nat} {σ σ' : mS} (h : keep b σ σ') {L : List Nat} (hb : b ∈ L) : keeps L σ σ' := by
  refine ⟨h.1, h.2.1, h.2.2.1, fun r hr => ?_⟩
  have hne : r ≠ b := fun e => hr (e ▸ hb)
  exact ⟨(h.2.2.2.1 r hne).1, (h.2.2.2.1 r hne).2, fun j hj => h.2.2.2.2 _ (by omega)⟩
theorem keeps.rfl' {L : List Nat} {σ : mS} : keeps L σ σ := ⟨rfl, rfl, fun _ _ _ _ => rfl, fun _ _ => ⟨rfl, rfl, fun _ _ => rfl⟩⟩
theorem keeps.trans {L : List Nat} {σ σ' σ'' : mS} (h : keeps L σ σ') (h2 : keeps L σ' σ'') : keeps L σ σ'' :=
  ⟨h2.1.trans h.1, h2.2.1.trans h.2.1, fun k a b c => (h2.2.2.1 k a b c).trans (h.2.2.1 k a b c), fun r hr => ⟨(h2.2.2.2 r hr).1.trans (h.2.2.2 r hr).1, (h2.2.2.2 r hr).2.1.trans (h.2.2.2 r hr).2.1, fun j hj => ((h2.2.2.2 r hr).2.2 j hj).trans ((h.2.2.2 r hr).2.2 j hj)⟩⟩
theorem keeps.mono {L L' : List Nat} {σ σ' : mS} (h : keeps L σ σ') (hl : ∀ r ∈ L, r ∈ L') : keeps L' σ σ' := ⟨h.1, h.2.1, h.2.2.1, fun r hr => h.2.2.2 r (fun e => hr (hl r e))⟩
theorem keeps.reg {L : List Nat} {r : Nat} {σ σ' : mS} {v : Int} (h : keeps L σ σ') (hr : r ∉ L) (hv : Reg σ r v) : Reg σ' r v := by
  obtain ⟨n, h1, h2, h3, h4, h5⟩ := hv
  obtain ⟨e1, e2, e3⟩ := h.2.2.2 r hr
  exact ⟨n, h1, h2, e1.trans h3, e2.trans h4, fun j hj => (e3 j (by omega)).trans (h5 j hj)⟩
/-- a register's number without its sign -/
def Mag (σ : mS) (r A : Nat) : Prop := ∃ n, n ≤ 400 ∧ nl A n ∧ σ.2.1 15 r = nI n ∧ ∀ j, j < n → σ.2.1 14 (400 * r + j) = nI (dg A j)
theorem Reg.mag {σ : mS} {r : Nat} {v : Int} (h : Reg σ r v) : Mag σ r v.natAbs := by
  obtain ⟨n, h1, h2, h3, h4, h5⟩ := h
  exact ⟨n, h1, h2, h3, h5⟩
theorem Mag.reg {σ : mS} {r A : Nat} (h : Mag σ r A) (v : Int) (hv : v.natAbs = A) (hs : σ.2.1 16 r = sg v) : Reg σ r v := by
  obtain ⟨n, h1, h2, h3, h5⟩ := h
  exact ⟨n, h1, by rw [hv]; exact h2, h3, hs, by rw [hv]; exact h5⟩
theorem Mag.of {σ σ' : mS} {r A : Nat} (h : Mag σ r A) (h1 : σ'.2.1 14 = σ.2.1 14) (h2 : σ'.2.1 15 = σ.2.1 15) : Mag σ' r A := by
  obtain ⟨n, a1, a2, a3, a5⟩ := h
  exact ⟨n, a1, a2, by rw [h2]; exact a3, by rw [h1]; exact a5⟩
set_option maxRecDepth 100000 in
set_option maxHeartbeats 4000000 in
theorem c_compareM (G : xG) (l : Launch) (o : Nat) (as : Nat → Nat) (M0 : xM) (N S : Nat) (d : Nat) (a b : Nat) (ha : a < 16) (hb : b < 16) (σ : mS) (A B : Nat) (hva : Mag σ a A) (hvb : Mag σ b B) : mC G l o as M0 N S YX9_compare d [.int (nI a), .int (nI b)] σ (fun x σ' => σ' = σ ∧ ∃ z : Int, x = some (.int (iI z)) ∧ -2147483648 ≤ z ∧ z < 2147483648 ∧ (z < 0 ↔ A < B) ∧ (z = 0 ↔ A = B)) := by
  obtain ⟨na, hna4, hna, hza, hla⟩ := hva
  obtain ⟨nb, hnb4, hnb, hzb, hlb⟩ := hvb
  refine mC.of (ls := [(0, .ref o), (1, .int (nI a)), (2, .int (nI b))]) (by decide) (Nat.le_of_ble_eq_true rfl) rfl fun M hM => ?_
  refine x_aload_n (q := 1) dX9_compare_0 rfl rfl ?_
  refine m_get (q := 4) hM 15 fwX9_44 (by decide) dX9_compare_1 rfl rfl ?_
  refine x_iload_n (q := 5) dX9_compare_4 rfl rfl ?_
  refine m_iald (q := 6) hM (n := 16) (by decide) dX9_compare_5 rfl (by omega) ?_
  rw [hza]
  refine x_aload_n (q := 7) dX9_compare_6 rfl rfl ?_
  refine m_get (q := 10) hM 15 fwX9_44 (by decide) dX9_compare_7 rfl rfl ?_
  refine x_iload_n (q := 11) dX9_compare_10 rfl rfl ?_
  refine m_iald (q := 12) hM (n := 16) (by decide) dX9_compare_11 rfl (by omega) ?_
  rw [hzb]
  refine xn_icmp_eq (q := 15) 29 dX9_compare_12 (by decide) rfl (by omega) (by omega) (fun hc12 => ?_) (fun hc12 => ?_)
  · refine x_aload_n (q := 30) dX9_compare_29 rfl rfl ?_
    refine m_get (q := 33) hM 15 fwX9_44 (by decide) dX9_compare_30 rfl rfl ?_
    refine x_iload_n (q := 34) dX9_compare_33 rfl rfl ?_
    refine m_iald (q := 35) hM (n := 16) (by decide) dX9_compare_34 rfl (by omega) ?_
    rw [hza]
    refine x_iconst (q := 36) (1) dX9_compare_35 rfl (by decide) ?_
    refine x_isub (q := 37) dX9_compare_36 rfl ?_
    refine x_topi (Int32.sub_eq_add_neg ..) ?_
    refine x_istore_n (q := 38) (ls' := [(0, _), (1, _), (2, _), (3, _)]) [1, 2, 3, 0] dX9_compare_37 rfl (by decide) rfl ?_
    subst hc12
    exact c_compare_loop G l o as M0 N S d a b ha hb σ (A : Int) (B : Int) na hna4 hla hlb M hM na (Nat.le_refl _) (by show A / B9 ^ na = B / B9 ^ na; rw [Nat.div_eq_of_lt hna.1, Nat.div_eq_of_lt hnb.1])
  · refine x_aload_n (q := 16) dX9_compare_15 rfl rfl ?_
    refine m_get (q := 19) hM 15 fwX9_44 (by decide) dX9_compare_16 rfl rfl ?_
    refine x_iload_n (q := 20) dX9_compare_19 rfl rfl ?_
    refine m_iald (q := 21) hM (n := 16) (by decide) dX9_compare_20 rfl (by omega) ?_
    rw [hza]
    refine x_aload_n (q := 22) dX9_compare_21 rfl rfl ?_
    refine m_get (q := 25) hM 15 fwX9_44 (by decide) dX9_compare_22 rfl rfl ?_
    refine x_iload_n (q := 26) dX9_compare_25 rfl rfl ?_
    refine m_iald (q := 27) hM (n := 16) (by decide) dX9_compare_26 rfl (by omega) ?_
    rw [hzb]
    refine xi_isub (q := 28) dX9_compare_27 rfl (nI_i _) (nI_i _) ?_
    have q1 : na < nb → A < B := nl_lt hna hnb
    have q2 : nb < na → B < A := nl_lt hnb hna
    refine x_iret rfl dX9_compare_28 (m_ret hM ⟨rfl, _, rfl, by omega, by omega, ?_, ?_⟩)
    · constructor
      · intro h; exact q1 (by omega)
      · intro h; rcases Nat.lt_or_ge na nb with g | g
        · omega
        · have := q2 (by omega); omega
    · constructor
      · intro h; omega
      · intro h; rcases Nat.lt_or_ge na nb with g | g
        · have := q1 g; omega
        · have := q2 (by omega); omega
set_option maxRecDepth 100000 in
set_option maxHeartbeats 4000000 in
theorem c_div_z (G : xG) (l : Launch) (o : Nat) (as : Nat → Nat) (M0 : xM) (N S : Nat) (d : Nat) (a b q s n na : Nat) (ha : a < 16) (hna : na + 1 < 400) (k0 : Nat) (σ : mS) (Q : xPost)
    (hx : ∀ σ' M, keep a σ σ' → σ'.2.1 16 = σ.2.1 16 → (∀ i, i < 400 * a + k0 → σ'.2.1 14 i = σ.2.1 14 i) → (∀ p, k0 ≤ p → p < na + 2 → σ'.2.1 14 (400 * a + p) = nI 0) → mAt o as σ' M0 M → xX G l YX9_divide d Q 196 [(0, .ref o), (1, .int (nI a)), (2, .int (nI b)), (3, .int (nI q)), (4, .long (lN s)), (6, .int (nI n)), (7, .int (nI na)), (8, .int (nI (na + 2)))] [] M N S) :
    ∀ (u k : Nat), k + u = na + 2 → k0 ≤ k → ∀ σ' M, keep a σ σ' → σ'.2.1 16 = σ.2.1 16 → (∀ i, i < 400 * a + k0 → σ'.2.1 14 i = σ.2.1 14 i) → (∀ p, k0 ≤ p → p < k → σ'.2.1 14 (400 * a + p) = nI 0) → mAt o as σ' M0 M → xX G l YX9_divide d Q 167 [(0, .ref o), (1, .int (nI a)), (2, .int (nI b)), (3, .int (nI q)), (4, .long (lN s)), (6, .int (nI n)), (7, .int (nI na)), (8, .int (nI k))] [] M N S := by
  intro u
  induction u with
  | zero =>
    intro k hk0 hkk σ' M hk hs hw h1 hM
    obtain rfl : k = na + 2 := by omega
    refine x_iload (q := 169) dX9_divide_167 rfl rfl ?_
    refine x_iload (q := 171) dX9_divide_169 rfl rfl ?_
    refine xn_iconst (q := 172) 1 dX9_divide_171 rfl (by decide) ?_
    refine xn_iadd (q := 173) dX9_divide_172 rfl ?_
    refine xn_icmp_gt (q := 176) 196 dX9_divide_173 (by decide) rfl (by omega) (by omega) (fun hc173 => ?_) (fun hc173 => absurd hc173 (by omega))
    exact hx σ' M hk hs hw h1 hM
  | succ u ih =>
    intro k hk0 hkk σ' M hk hs hw h1 hM
    refine x_iload (q := 169) dX9_divide_167 rfl rfl ?_
    refine x_iload (q := 171) dX9_divide_169 rfl rfl ?_
    refine xn_iconst (q := 172) 1 dX9_divide_171 rfl (by decide) ?_
    refine xn_iadd (q := 173) dX9_divide_172 rfl ?_
    refine xn_icmp_gt (q := 176) 196 dX9_divide_173 (by decide) rfl (by omega) (by omega) (fun hc173 => absurd hc173 (by omega)) (fun hc173 => ?_)
    refine x_aload_n (q := 177) dX9_divide_176 rfl rfl ?_
    refine m_get (q := 180) hM 14 fwX9_41 (by decide) dX9_divide_177 rfl rfl ?_
    refine xn_sipush (q := 183) 400 dX9_divide_180 rfl (by decide) ?_
    refine x_iload_n (q := 184) dX9_divide_183 rfl rfl ?_
    refine xn_imul (q := 185) dX9_divide_184 rfl ?_
    refine x_iload (q := 187) dX9_divide_185 rfl rfl ?_
    refine xn_iadd (q := 188) dX9_divide_187 rfl ?_
    refine xn_iconst (q := 189) 0 dX9_divide_188 rfl (by decide) ?_
    refine m_limb (q := 190) hM a dX9_divide_189 rfl (by omega) (by omega) (by omega) (fun M σ189 k189 e189 f189 g189 i189 hM => ?_)
    refine xn_iinc (q := 193) (ls' := [(0, _), (1, _), (2, _), (3, _), (4, _), (6, _), (7, _), (8, _)]) [1, 2, 3, 4, 5, 6, 7, 0] 1 dX9_divide_190 rfl rfl (by decide) (by decide) rfl ?_
    refine x_goto 167 dX9_divide_193 (by decide) ?_
    refine ih (k + 1) (by omega) (by omega) σ189 M (hk.trans k189) (i189.trans hs) (fun i hi => (f189 i (by omega)).trans (hw i hi)) (fun p hp hp2 => ?_) hM
    by_cases e : p = k
    · rw [e]; exact e189
    · rw [f189 _ (by omega)]; exact h1 p hp (by omega)
theorem dg_div (R j k : Nat) : dg (R / B9 ^ j) k = dg R (j + k) := by
  unfold dg
  rw [Nat.div_div_eq_div_mul, ← Nat.pow_add]
theorem dg_mod {R j p : Nat} (h : p < j) : dg (R % B9 ^ j) p = dg R p := by
  have e : R = R % B9 ^ j + R / B9 ^ j * B9 ^ j := by
    have := Nat.div_add_mod R (B9 ^ j)
    rw [Nat.mul_comm] at this
    omega
  conv => rhs; rw [e]
  exact (dg_add_mul h).symm
theorem dv_step {T D j : Nat} (hD : 0 < D) : (T % (D * B9 ^ (j + 1))) / B9 ^ j < D * B9 ∧ (T % (D * B9 ^ (j + 1))) / B9 ^ j / D = dg (T / D) j ∧ (T % (D * B9 ^ j)) / B9 ^ j = (T % (D * B9 ^ (j + 1))) / B9 ^ j % D ∧ (T % (D * B9 ^ j)) % B9 ^ j = (T % (D * B9 ^ (j + 1))) % B9 ^ j := by
  have hp := B9_pos j
  have e0 : D * B9 ^ (j + 1) = D * B9 ^ j * B9 := by rw [B9_succ, Nat.mul_assoc]
  have hpos : 0 < D * B9 ^ j := Nat.mul_pos hD hp
  have e1 : T % (D * B9 ^ j) = T % (D * B9 ^ (j + 1)) % (D * B9 ^ j) := by rw [e0, Nat.mod_mul_right_mod]
  have e2 : T % (D * B9 ^ (j + 1)) / (D * B9 ^ j) = T / (D * B9 ^ j) % B9 := by rw [e0, Nat.mod_mul_right_div_self]
  have hlt : T % (D * B9 ^ (j + 1)) < D * B9 ^ j * B9 := by rw [← e0]; exact Nat.mod_lt _ (by rw [e0]; exact Nat.mul_pos hpos (by decide))
  generalize T % (D * B9 ^ (j + 1)) = R at *
  refine ⟨?_, ?_, ?_, ?_⟩
  · refine Nat.div_lt_of_lt_mul ?_
    rw [Nat.mul_comm (B9 ^ j), Nat.mul_right_comm]; exact hlt
  · rw [Nat.div_div_eq_div_mul, Nat.mul_comm (B9 ^ j) D, e2]
    unfold dg
    rw [Nat.div_div_eq_div_mul]
  · rw [e1, Nat.mul_comm D, Nat.mod_mul, Nat.add_mul_div_left _ _ hp, Nat.div_eq_of_lt (Nat.mod_lt _ hp), Nat.zero_add]
  · rw [e1, Nat.mul_comm D, Nat.mod_mul, Nat.add_mul_mod_self_left, Nat.mod_mod]
set_option maxRecDepth 100000 in
set_option maxHeartbeats 4000000 in
theorem c_div_j (G : xG) (l : Launch) (o : Nat) (as : Nat → Nat) (M0 : xM) (N S : Nat) (d : Nat) (a b q s n na T D : Nat) (ha : a < 15) (hq : q < 15) (haq : a ≠ q) (hn : 2 ≤ n) (hnn : n ≤ na) (hna : na + 1 < 400) (hDn : D < B9 ^ n) (hDt : dg D (n - 1) ≠ 0) (σ : mS) (hlD : ∀ k, k < n → σ.2.1 14 (6000 + k) = nI (dg D k)) (Q : xPost)
    (hx : ∀ σ' M, keeps [a, q] σ σ' → σ'.2.1 15 = σ.2.1 15 → σ'.2.1 16 = σ.2.1 16 → (∀ p, p < na + 2 → σ'.2.1 14 (400 * a + p) = nI (dg (T % D) p)) → (∀ p, p < na - n + 1 → σ'.2.1 14 (400 * q + p) = nI (dg (T / D) p)) → mAt o as σ' M0 M → xX G l YX9_divide (d + 1) Q 242 [(0, .ref o), (1, .int (nI a)), (2, .int (nI b)), (3, .int (nI q)), (4, .long (lN s)), (6, .int (nI n)), (7, .int (nI na)), (8, .int (-1))] [] M N S) :
    ∀ (i : Nat), i ≤ na - n + 1 → ∀ σ' M, keeps [a, q] σ σ' → σ'.2.1 15 = σ.2.1 15 → σ'.2.1 16 = σ.2.1 16 → (∀ p, p < na + 2 → σ'.2.1 14 (400 * a + p) = nI (dg (T % (D * B9 ^ i)) p)) → (∀ p, i ≤ p → p < na - n + 1 → σ'.2.1 14 (400 * q + p) = nI (dg (T / D) p)) → mAt o as σ' M0 M → xX G l YX9_divide (d + 1) Q 203 [(0, .ref o), (1, .int (nI a)), (2, .int (nI b)), (3, .int (nI q)), (4, .long (lN s)), (6, .int (nI n)), (7, .int (nI na)), (8, .int (nI i + (-1)))] [] M N S := by
  have hD : 0 < D := by
    rcases Nat.eq_zero_or_pos D with e | e
    · rw [e] at hDt; exact absurd (dg_hi (B9_pos _)) hDt
    · exact e
  intro i
  induction i with
  | zero =>
    intro hi σ' M hk hz hs hA hQ hM
    rw [Nat.pow_zero, Nat.mul_one] at hA
    rw [show nI 0 + (-1) = -1 from rfl]
    refine x_iload (q := 205) dX9_divide_203 rfl rfl ?_
    refine x_if_lt (q := 208) 242 dX9_divide_205 (by decide) rfl (fun hc205 => ?_) (fun hc205 => absurd (by decide) hc205)
    exact hx σ' M hk hz hs hA (fun p hp => hQ p (Nat.zero_le _) hp) hM
  | succ j ih =>
    intro hi σ' M hk hz hs hA hQ hM
    rw [pk_m1]
    obtain ⟨s1, s2, s3, s4⟩ := dv_step (T := T) (j := j) hD
    have hRlt : T % (D * B9 ^ (j + 1)) < B9 ^ (n + j + 1) := by
      refine Nat.lt_of_lt_of_le (Nat.mod_lt _ (Nat.mul_pos hD (B9_pos _))) ?_
      rw [show n + j + 1 = n + (j + 1) by omega, Nat.pow_add B9 n (j + 1)]
      exact Nat.mul_le_mul_right _ (Nat.le_of_lt hDn)
    have hR2 : T % (D * B9 ^ j) < B9 ^ (n + j) := by
      refine Nat.lt_of_lt_of_le (Nat.mod_lt _ (Nat.mul_pos hD (B9_pos _))) ?_
      rw [Nat.pow_add]
      exact Nat.mul_le_mul_right _ (Nat.le_of_lt hDn)
    have hlD' : ∀ k, k < n → σ'.2.1 14 (6000 + k) = nI (dg D k) := fun k h => by
      have := (hk.2.2.2 15 (by simp; omega)).2.2 k (by omega)
      exact this.trans (hlD k h)
    have hlX' : ∀ k, k ≤ n → σ'.2.1 14 (400 * a + j + k) = nI (dg (T % (D * B9 ^ (j + 1)) / B9 ^ j) k) := fun k h => by
      rw [Nat.add_assoc, hA (j + k) (by omega), dg_div]
    refine x_iload (q := 205) dX9_divide_203 rfl rfl ?_
    refine xn_if_lt (q := 208) 242 dX9_divide_205 (by decide) rfl (by omega) (fun hc205 => absurd hc205 (by omega)) (fun hc205 => ?_)
    refine x_aload_n (q := 209) dX9_divide_208 rfl rfl ?_
    refine m_get (q := 212) hM 14 fwX9_41 (by decide) dX9_divide_209 rfl rfl ?_
    refine xn_sipush (q := 215) 400 dX9_divide_212 rfl (by decide) ?_
    refine x_iload_n (q := 216) dX9_divide_215 rfl rfl ?_
    refine xn_imul (q := 217) dX9_divide_216 rfl ?_
    refine x_iload (q := 219) dX9_divide_217 rfl rfl ?_
    refine xn_iadd (q := 220) dX9_divide_219 rfl ?_
    refine x_aload_n (q := 221) dX9_divide_220 rfl rfl ?_
    refine xn_sipush (q := 224) 400 dX9_divide_221 rfl (by decide) ?_
    refine x_iload_n (q := 225) dX9_divide_224 rfl rfl ?_
    refine xn_imul (q := 226) dX9_divide_225 rfl ?_
    refine x_iload (q := 228) dX9_divide_226 rfl rfl ?_
    refine xn_iadd (q := 229) dX9_divide_228 rfl ?_
    refine x_iload (q := 231) dX9_divide_229 rfl rfl ?_
    refine m_call (q := 234) (As := [_, _]) hM imX9_digit ivX9_digit ilX9_digit mwX9_132 xciX9 dX9_divide_231 rfl rfl rfl (Nat.le_of_ble_eq_true rfl) ?_
    refine (c_digit G l o as M0 N S d a (400 * a + j) n (by omega) (by omega) (by omega) (by omega) hn (T % (D * B9 ^ (j + 1)) / B9 ^ j) D hDn hDt s1 σ' hlD' hlX').mono (fun x σ9 hp => ?_)
    obtain ⟨rfl, k9, z9, g9, w9, v9⟩ := hp
    intro M hM
    show xX G l _ (d + 1) _ _ _ [.long (lN (T % (D * B9 ^ (j + 1)) / B9 ^ j / D)), .int (nI (400 * q + j)), .ref (as 14)] M N S
    refine xn_l2i (q := 235) dX9_divide_234 rfl ?_
    refine m_limb (q := 236) hM q dX9_divide_235 rfl (by omega) (by omega) (by omega) (fun M σ235 k235 e235 f235 g235 i235 hM => ?_)
    refine x_iinc (q := 239) (ls' := [(0, _), (1, _), (2, _), (3, _), (4, _), (6, _), (7, _), (8, _)]) [1, 2, 3, 4, 5, 6, 7, 0] (-1) dX9_divide_236 rfl rfl (by decide) (by decide) rfl ?_
    refine x_goto 203 dX9_divide_239 (by decide) ?_
    have hq9 : T % (D * B9 ^ (j + 1)) / B9 ^ j / D = dg (T / D) j := s2
    refine ih (by omega) σ235 M (hk.trans ((k9.s (by simp)).trans (k235.s (by simp)))) ((g235.trans z9).trans hz) ((i235.trans g9).trans hs) (fun p hp => ?_) (fun p hp hp2 => ?_) hM
    · rw [f235 _ (by omega)]
      rcases Nat.lt_or_ge p j with e | e
      · rw [w9 _ (by omega), hA p hp, ← dg_mod (R := T % (D * B9 ^ j)) e, s4, dg_mod e]
      · rcases Nat.lt_or_ge p (j + (n + 1)) with f | f
        · obtain ⟨k, rfl⟩ : ∃ k, p = j + k := ⟨p - j, by omega⟩
          rw [← Nat.add_assoc, v9 k (by omega), ← s3, dg_div]
        · rw [w9 _ (by omega), hA p hp, dg_hi (Nat.lt_of_lt_of_le hRlt (B9_mono (by omega))), dg_hi (Nat.lt_of_lt_of_le hR2 (B9_mono (by omega)))]
    · by_cases e : p = j
      · rw [e, e235, hq9]
      · rw [f235 _ (by omega), (k9.2.2.2.2 _ (by omega)), hQ p (by omega) hp2]
theorem sc_facts {B nb : Nat} (hB : nl B (nb + 1)) : let s := 1000000000 / (dg B nb + 1); 0 < s ∧ s ≤ 1000000000 ∧ nl (B * s) (nb + 1) := by
  intro s
  have hd : dg B nb < 1000000000 := dg_lt B nb
  have h1 : s * (dg B nb + 1) ≤ 1000000000 := Nat.div_mul_le_self _ _
  have h0 : 0 < s := Nat.div_pos (by omega) (by omega)
  have h2 : s ≤ 1000000000 := Nat.div_le_self _ _
  have e : B / B9 ^ nb = dg B nb := by
    have h3 := div_dg B nb
    rw [Nat.div_eq_of_lt hB.1, Nat.zero_mul, Nat.zero_add] at h3
    exact h3
  have hlt : B < (dg B nb + 1) * B9 ^ nb := by
    have h4 := Nat.div_add_mod B (B9 ^ nb)
    have h5 := Nat.mod_lt B (B9_pos nb)
    rw [e, Nat.mul_comm] at h4
    rw [Nat.add_mul]
    omega
  refine ⟨h0, h2, ?_, ?_⟩
  · rw [B9_succ]
    have h6 : B * s < (dg B nb + 1) * B9 ^ nb * s := Nat.mul_lt_mul_of_pos_right hlt h0
    have h7 : (dg B nb + 1) * B9 ^ nb * s = B9 ^ nb * (s * (dg B nb + 1)) := by
      rw [Nat.mul_comm (dg B nb + 1), Nat.mul_assoc, Nat.mul_comm (dg B nb + 1)]
    have h8 : B9 ^ nb * (s * (dg B nb + 1)) ≤ B9 ^ nb * B9 := Nat.mul_le_mul_left _ h1
    omega
  · rcases hB.2 with f | f
    · exact Or.inl f
    · exact Or.inr (Nat.le_trans f (Nat.le_mul_of_pos_right _ h0))
set_option maxRecDepth 100000 in
set_option maxHeartbeats 4000000 in
theorem c_divide (G : xG) (l : Launch) (o : Nat) (as : Nat → Nat) (M0 : xM) (N S : Nat) (d : Nat) (a b q : Nat) (ha : a < 15) (hb : b < 15) (hq : q < 15) (hab : a ≠ b) (haq : a ≠ q) (hbq : b ≠ q) (σ : mS) (va vb : Int) (hva : Reg σ a va) (hvb : Reg σ b vb) (hb0 : vb ≠ 0) (hA : va.natAbs < B9 ^ 397) : mC G l o as M0 N S YX9_divide (d + 2) [.int (nI a), .int (nI b), .int (nI q)] σ (fun x σ' => x = none ∧ keeps [a, q, 15] σ σ' ∧ Reg σ' a ((va.natAbs % vb.natAbs : Nat) : Int) ∧ Reg σ' q ((va.natAbs / vb.natAbs : Nat) : Int)) := by
  have hB0 : 0 < vb.natAbs := by omega
  have hma := hva.mag
  have hmb := hvb.mag
  refine mC.of (ls := [(0, .ref o), (1, .int (nI a)), (2, .int (nI b)), (3, .int (nI q))]) (by decide) (Nat.le_of_ble_eq_true rfl) rfl fun M hM => ?_
  refine x_aload_n (q := 1) dX9_divide_0 rfl rfl ?_
  refine m_get (q := 4) hM 16 fwX9_47 (by decide) dX9_divide_1 rfl rfl ?_
  refine x_iload_n (q := 5) dX9_divide_4 rfl rfl ?_
  refine xn_iconst (q := 6) 1 dX9_divide_5 rfl (by decide) ?_
  refine m_sign (q := 7) hM dX9_divide_6 rfl (by omega) (fun M σ6 k6 e6 f6 g6 hM => ?_)
  refine x_aload_n (q := 8) dX9_divide_7 rfl rfl ?_
  refine m_get (q := 11) hM 16 fwX9_47 (by decide) dX9_divide_8 rfl rfl ?_
  refine x_iload_n (q := 12) dX9_divide_11 rfl rfl ?_
  refine xn_iconst (q := 13) 1 dX9_divide_12 rfl (by decide) ?_
  refine m_sign (q := 14) hM dX9_divide_13 rfl (by omega) (fun M σ13 k13 e13 f13 g13 hM => ?_)
  refine x_aload_n (q := 15) dX9_divide_14 rfl rfl ?_
  refine x_iload_n (q := 16) dX9_divide_15 rfl rfl ?_
  refine x_iload_n (q := 17) dX9_divide_16 rfl rfl ?_
  refine m_call (q := 20) (As := [_, _]) hM imX9_compare ivX9_compare ilX9_compare mwX9_114 xciX9 dX9_divide_17 rfl rfl rfl (Nat.le_of_ble_eq_true rfl) ?_
  have hma1 : Mag σ13 a va.natAbs := (hma.of f6 g6).of f13 g13
  have hmb1 : Mag σ13 b vb.natAbs := (hmb.of f6 g6).of f13 g13
  refine (c_compareM G l o as M0 N S (d + 1) a b (by omega) (by omega) σ13 va.natAbs vb.natAbs hma1 hmb1).mono (fun x σ9 hp => ?_)
  obtain ⟨e9, z, rfl, z1, z2, z3, z4⟩ := hp
  intro M hM
  rw [e9] at hM
  clear e9 σ9
  show xX G l _ (d + 2) _ _ _ [.int (iI z)] M N S
  refine xi_if_ge (q := 23) 50 dX9_divide_20 (by decide) rfl rfl (by omega) (by omega) (fun hc20 => ?_) (fun hc20 => ?_)
  · have hle : vb.natAbs ≤ va.natAbs := Nat.not_lt.mp (fun h => absurd (z3.mpr h) (by omega))
    obtain ⟨na, hna4, hna, hza, hla⟩ := id hma1
    obtain ⟨nb, hnb4, hnb, hzb, hlb⟩ := id hmb1
    have hra : Reg σ13 a ((va.natAbs : Nat) : Int) := hma1.reg _ (Int.natAbs_natCast _) (by rw [e13, sg_pos (by omega)]; rfl)
    have hrb : Reg σ13 b vb := (k13.reg (Ne.symm hab) (k6.reg hbq hvb))
    have hsq : σ13.2.1 16 q = 1 := by rw [(k13.2.2.2.1 q (Ne.symm haq)).2, e6]; rfl
    refine x_aload_n (q := 51) dX9_divide_50 rfl rfl ?_
    refine m_get (q := 54) hM 15 fwX9_44 (by decide) dX9_divide_51 rfl rfl ?_
    refine x_iload_n (q := 55) dX9_divide_54 rfl rfl ?_
    refine m_iald (q := 56) hM (n := 16) (by decide) dX9_divide_55 rfl (by omega) ?_
    rw [hzb]
    refine xn_iconst (q := 57) 1 dX9_divide_56 rfl (by decide) ?_
    refine xn_icmp_ne (q := 60) 92 dX9_divide_57 (by decide) rfl (by omega) (by omega) (fun hc57 => ?_) (fun hc57 => ?_)
    · obtain ⟨m, rfl⟩ : ∃ m, nb = m + 1 := ⟨nb - 1, by have := nl_zero_iff hnb; omega⟩
      obtain ⟨s0, s9, sn⟩ := sc_facts hnb
      have dtop : dg vb.natAbs m < 1000000000 := dg_lt _ _
      have hm1 : 1 ≤ m := by omega
      have hna397 : na ≤ 397 := nl_of_le hna hA
      have hnba : m + 1 ≤ na := by
        rcases Nat.lt_or_ge na (m + 1) with h | h
        · exact absurd (nl_lt hna hnb h) (by omega)
        · exact h
      refine xn_ldc2 (q := 95) 1000000000 dX9_divide_92 rfl cwX9_100 ?_
      refine x_aload_n (q := 96) dX9_divide_95 rfl rfl ?_
      refine m_get (q := 99) hM 14 fwX9_41 (by decide) dX9_divide_96 rfl rfl ?_
      refine xn_sipush (q := 102) 400 dX9_divide_99 rfl (by decide) ?_
      refine x_iload_n (q := 103) dX9_divide_102 rfl rfl ?_
      refine xn_imul (q := 104) dX9_divide_103 rfl ?_
      refine x_aload_n (q := 105) dX9_divide_104 rfl rfl ?_
      refine m_get (q := 108) hM 15 fwX9_44 (by decide) dX9_divide_105 rfl rfl ?_
      refine x_iload_n (q := 109) dX9_divide_108 rfl rfl ?_
      refine m_iald (q := 110) hM (n := 16) (by decide) dX9_divide_109 rfl (by omega) ?_
      rw [hzb]
      refine xn_iadd (q := 111) dX9_divide_110 rfl ?_
      refine xn_iconst (q := 112) 1 dX9_divide_111 rfl (by decide) ?_
      refine xn_isub (q := 113) dX9_divide_112 rfl (by omega) ?_
      refine m_iald (q := 114) hM (n := 6400) (by decide) dX9_divide_113 rfl (by omega) ?_
      rw [show σ13.2.1 14 (400 * b + (m + 1) - 1) = nI (dg vb.natAbs m) from hlb m (by omega)]
      refine xn_i2l (q := 115) dX9_divide_114 rfl (by omega) ?_
      refine xn_lconst (q := 116) 1 dX9_divide_115 rfl (by decide) ?_
      refine xn_ladd (q := 117) dX9_divide_116 rfl ?_
      refine xn_ldiv (q := 118) dX9_divide_117 rfl (by omega) (by omega) (by omega) ?_
      generalize hs : 1000000000 / (dg vb.natAbs m + 1) = s at *
      have s0 : 0 < s := s0
      have s9 : s ≤ 1000000000 := s9
      have sn : nl (vb.natAbs * s) (m + 1) := sn
      have hsT : (lN s).toInt = (s : Int) := pk_lT (by omega)
      refine x_lstore (q := 120) (ls' := [(0, _), (1, _), (2, _), (3, _), (4, _)]) [1, 2, 3, 4, 0] dX9_divide_118 rfl (by decide) rfl ?_
      refine x_aload_n (q := 121) dX9_divide_120 rfl rfl ?_
      refine x_iload_n (q := 122) dX9_divide_121 rfl rfl ?_
      refine xn_bipush (q := 124) 15 dX9_divide_122 rfl (by decide) ?_
      refine m_call (q := 127) (As := [_, _]) hM imX9_copy ivX9_copy ilX9_copy mwX9_107 xciX9 dX9_divide_124 rfl rfl rfl (Nat.le_of_ble_eq_true rfl) ?_
      refine (c_copy G l o as M0 N S (d + 1) b 15 (by omega) (by omega) (by omega) σ13 vb hrb).mono (fun x σ9 hp => ?_)
      obtain ⟨rfl, k9, r9⟩ := hp
      intro M hM
      show xX G l _ (d + 2) _ _ _ [] M N S
      refine x_aload_n (q := 128) dX9_divide_127 rfl rfl ?_
      refine xn_bipush (q := 130) 15 dX9_divide_128 rfl (by decide) ?_
      refine x_lload (q := 132) dX9_divide_130 rfl rfl ?_
      refine m_call (q := 135) (As := [_, _]) hM imX9_multiplySmall ivX9_multiplySmall ilX9_multiplySmall mwX9_129 xciX9 dX9_divide_132 rfl rfl rfl (Nat.le_of_ble_eq_true rfl) ?_
      refine (c_multiplySmall G l o as M0 N S d 15 (by omega) (lN s) s hsT (by rw [Int.natAbs_natCast]; omega) σ9 vb r9 (Nat.lt_of_lt_of_le hnb.1 (B9_mono (by omega)))).mono (fun x σ19 hp => ?_)
      obtain ⟨rfl, k19, r19⟩ := hp
      intro M hM
      show xX G l _ (d + 2) _ _ _ [] M N S
      obtain ⟨n1, hn14, hn1, hz15, hg15, hl15⟩ := id r19
      have eD : (vb * (s : Int)).natAbs = vb.natAbs * s := by rw [Int.natAbs_mul, Int.natAbs_natCast]
      rw [eD] at hn1 hl15
      obtain rfl : n1 = m + 1 := nl_uniq hn1 sn
      have hra19 : Reg σ19 a ((va.natAbs : Nat) : Int) := k19.reg (by omega) (k9.reg (by omega) hra)
      obtain ⟨na', hna4', hna', hza19, -, -⟩ := id hra19
      rw [Int.natAbs_natCast] at hna'
      have ena : na' = na := nl_uniq hna' hna
      rw [ena] at hza19
      refine x_aload_n (q := 136) dX9_divide_135 rfl rfl ?_
      refine m_get (q := 139) hM 15 fwX9_44 (by decide) dX9_divide_136 rfl rfl ?_
      refine xn_bipush (q := 141) 15 dX9_divide_139 rfl (by decide) ?_
      refine m_iald (q := 142) hM (n := 16) (by decide) dX9_divide_141 rfl (by omega) ?_
      rw [hz15]
      refine x_istore (q := 144) (ls' := [(0, _), (1, _), (2, _), (3, _), (4, _), (6, _)]) [1, 2, 3, 4, 5, 0] dX9_divide_142 rfl (by decide) rfl ?_
      refine x_aload_n (q := 145) dX9_divide_144 rfl rfl ?_
      refine m_get (q := 148) hM 15 fwX9_44 (by decide) dX9_divide_145 rfl rfl ?_
      refine x_iload_n (q := 149) dX9_divide_148 rfl rfl ?_
      refine m_iald (q := 150) hM (n := 16) (by decide) dX9_divide_149 rfl (by omega) ?_
      rw [hza19]
      refine x_istore (q := 152) (ls' := [(0, _), (1, _), (2, _), (3, _), (4, _), (6, _), (7, _)]) [1, 2, 3, 4, 5, 6, 0] dX9_divide_150 rfl (by decide) rfl ?_
      refine x_aload_n (q := 153) dX9_divide_152 rfl rfl ?_
      refine x_iload_n (q := 154) dX9_divide_153 rfl rfl ?_
      refine x_lload (q := 156) dX9_divide_154 rfl rfl ?_
      refine m_call (q := 159) (As := [_, _]) hM imX9_multiplySmall ivX9_multiplySmall ilX9_multiplySmall mwX9_129 xciX9 dX9_divide_156 rfl rfl rfl (Nat.le_of_ble_eq_true rfl) ?_
      refine (c_multiplySmall G l o as M0 N S d a (by omega) (lN s) s hsT (by rw [Int.natAbs_natCast]; omega) σ19 _ hra19 (by rw [Int.natAbs_natCast]; exact Nat.lt_of_lt_of_le hA (B9_mono (by omega)))).mono (fun x σ29 hp => ?_)
      obtain ⟨rfl, k29, r29⟩ := hp
      intro M hM
      show xX G l _ (d + 2) _ _ _ [] M N S
      obtain ⟨n2, hn24, hn2, hza29, hga29, hla29⟩ := id r29
      have eT : ((va.natAbs : Int) * (s : Int)).natAbs = va.natAbs * s := by rw [Int.natAbs_mul, Int.natAbs_natCast, Int.natAbs_natCast]
      rw [eT] at hn2 hla29
      have hn2le : n2 ≤ na + 1 := nl_of_le hn2 (by rw [B9_succ]; exact Nat.mul_lt_mul_of_lt_of_le hna.1 (by show s ≤ 1000000000; omega) (by decide))
      refine x_aload_n (q := 160) dX9_divide_159 rfl rfl ?_
      refine m_get (q := 163) hM 15 fwX9_44 (by decide) dX9_divide_160 rfl rfl ?_
      refine x_iload_n (q := 164) dX9_divide_163 rfl rfl ?_
      refine m_iald (q := 165) hM (n := 16) (by decide) dX9_divide_164 rfl (by omega) ?_
      rw [hza29]
      refine x_istore (q := 167) (ls' := [(0, _), (1, _), (2, _), (3, _), (4, _), (6, _), (7, _), (8, _)]) [1, 2, 3, 4, 5, 6, 7, 0] dX9_divide_165 rfl (by decide) rfl ?_
      refine c_div_z G l o as M0 N S (d + 2) a b q s (m + 1) na (by omega) (by omega) n2 σ29 _ (fun σ39 M k39 g39 w39 v39 hM => ?_) (na + 2 - n2) n2 (by omega) (Nat.le_refl _) σ29 M keep.rfl' rfl (fun i _ => rfl) (fun p h1 h2 => absurd h1 (by omega)) hM
      refine x_iload (q := 198) dX9_divide_196 rfl rfl ?_
      refine x_iload (q := 200) dX9_divide_198 rfl rfl ?_
      refine xn_isub (q := 201) dX9_divide_200 rfl (by omega) ?_
      refine x_istore (q := 203) (ls' := [(0, _), (1, _), (2, _), (3, _), (4, _), (6, _), (7, _), (8, _)]) [1, 2, 3, 4, 5, 6, 7, 0] dX9_divide_201 rfl (by decide) rfl ?_
      have hD0 : 0 < vb.natAbs * s := Nat.mul_pos hB0 s0
      have hT : va.natAbs * s < vb.natAbs * s * B9 ^ (na - (m + 1) + 1) := by
        have h1 : va.natAbs * s < B9 ^ na * s := Nat.mul_lt_mul_of_pos_right hna.1 s0
        have h2 : B9 ^ m ≤ vb.natAbs := hnb.2.resolve_left (by omega)
        have h3 : B9 ^ na = B9 ^ m * B9 ^ (na - (m + 1) + 1) := by rw [← Nat.pow_add]; congr 1; omega
        have h4 : B9 ^ m * B9 ^ (na - (m + 1) + 1) * s ≤ vb.natAbs * s * B9 ^ (na - (m + 1) + 1) := by
          rw [Nat.mul_right_comm]; exact Nat.mul_le_mul_right _ (Nat.mul_le_mul_right _ h2)
        rw [h3] at h1; omega
      have hlD : ∀ k, k < m + 1 → σ39.2.1 14 (6000 + k) = nI (dg (vb.natAbs * s) k) := fun k hk => (k39.2.2.2.2 _ (by omega)).trans ((k29.2.2.2.2 _ (by omega)).trans (hl15 k hk))
      have hlA : ∀ p, p < na + 2 → σ39.2.1 14 (400 * a + p) = nI (dg (va.natAbs * s) p) := fun p hp => by
        rcases Nat.lt_or_ge p n2 with h | h
        · rw [w39 _ (by omega)]; exact hla29 p h
        · rw [v39 p h hp, dg_hi (Nat.lt_of_lt_of_le hn2.1 (B9_mono h))]
      have hDt : dg (vb.natAbs * s) (m + 1 - 1) ≠ 0 := nl_top sn
      have h5 := c_div_j G l o as M0 N S (d + 1) a b q s (m + 1) na (va.natAbs * s) (vb.natAbs * s) ha hq haq (by omega) hnba (by omega) sn.1 hDt σ39 hlD (mQ o as M0 N S (fun x σ' => x = none ∧ keeps [a, q, 15] σ σ' ∧ Reg σ' a ((va.natAbs % vb.natAbs : Nat) : Int) ∧ Reg σ' q ((va.natAbs / vb.natAbs : Nat) : Int))) (fun σ49 M k49 z49 g49 v49 u49 hM => ?_) (na - (m + 1) + 1) (Nat.le_refl _) σ39 M keeps.rfl' rfl rfl (fun p hp => by rw [Nat.mod_eq_of_lt hT]; exact hlA p hp) (fun p h1 h2 => absurd h1 (by omega)) hM
      · rw [pk_m1] at h5; exact h5
      have hmodlt : va.natAbs * s % (vb.natAbs * s) < B9 ^ (m + 1) := Nat.lt_of_lt_of_le (Nat.mod_lt _ hD0) (Nat.le_of_lt sn.1)
      have hdiv : va.natAbs * s / (vb.natAbs * s) = va.natAbs / vb.natAbs := Nat.mul_div_mul_right _ _ s0
      have hmod : va.natAbs * s % (vb.natAbs * s) = va.natAbs % vb.natAbs * s := Nat.mul_mod_mul_right _ _ _
      have hdivlt : va.natAbs / vb.natAbs < B9 ^ (na - (m + 1) + 1) := by rw [← hdiv]; exact Nat.div_lt_of_lt_mul hT
      have hdivpos : 0 < va.natAbs / vb.natAbs := Nat.div_pos hle hB0
      have hsq49 : σ49.2.1 16 q = 1 := by rw [g49, (k39.2.2.2.1 q (Ne.symm haq)).2, (k29.2.2.2.1 q (Ne.symm haq)).2, (k19.2.2.2.1 q (by omega)).2, (k9.2.2.2.1 q (by omega)).2]; exact hsq
      refine x_aload_n (q := 243) dX9_divide_242 rfl rfl ?_
      refine m_get (q := 246) hM 15 fwX9_44 (by decide) dX9_divide_243 rfl rfl ?_
      refine x_iload_n (q := 247) dX9_divide_246 rfl rfl ?_
      refine x_iload (q := 249) dX9_divide_247 rfl rfl ?_
      refine m_size (q := 250) hM dX9_divide_249 rfl (by omega) (fun M σ249 k249 e249 f249 g249 hM => ?_)
      refine x_aload_n (q := 251) dX9_divide_250 rfl rfl ?_
      refine m_get (q := 254) hM 16 fwX9_47 (by decide) dX9_divide_251 rfl rfl ?_
      refine x_iload_n (q := 255) dX9_divide_254 rfl rfl ?_
      refine xn_iconst (q := 256) 1 dX9_divide_255 rfl (by decide) ?_
      refine m_sign (q := 257) hM dX9_divide_256 rfl (by omega) (fun M σ256 k256 e256 f256 g256 hM => ?_)
      refine x_aload_n (q := 258) dX9_divide_257 rfl rfl ?_
      refine x_iload_n (q := 259) dX9_divide_258 rfl rfl ?_
      refine x_iload (q := 261) dX9_divide_259 rfl rfl ?_
      refine m_call (q := 264) (As := [_, _]) hM imX9_trim ivX9_trim ilX9_trim mwX9_103 xciX9 dX9_divide_261 rfl rfl rfl (Nat.le_of_ble_eq_true rfl) ?_
      refine (c_trim G l o as M0 N S (d + 1) a (m + 1) (by omega) (by omega) σ256 (dg (va.natAbs * s % (vb.natAbs * s))) ((va.natAbs * s % (vb.natAbs * s) : Nat) : Int) (fun j _ => dg_lt _ _) (fun j hj => by rw [f256, f249]; exact v49 j (by omega)) (by rw [val_dg hmodlt, Int.natAbs_natCast]) (fun h => by rw [e256, sg_pos (by omega)]; rfl)).mono (fun x σ59 hp => ?_)
      obtain ⟨rfl, k59, r59⟩ := hp
      intro M hM
      show xX G l _ (d + 2) _ _ _ [] M N S
      refine x_aload_n (q := 265) dX9_divide_264 rfl rfl ?_
      refine x_iload_n (q := 266) dX9_divide_265 rfl rfl ?_
      refine x_iload (q := 268) dX9_divide_266 rfl rfl ?_
      refine x_iload (q := 270) dX9_divide_268 rfl rfl ?_
      refine xn_isub (q := 271) dX9_divide_270 rfl (by omega) ?_
      refine xn_iconst (q := 272) 1 dX9_divide_271 rfl (by decide) ?_
      refine xn_iadd (q := 273) dX9_divide_272 rfl ?_
      refine m_call (q := 276) (As := [_, _]) hM imX9_trim ivX9_trim ilX9_trim mwX9_103 xciX9 dX9_divide_273 rfl rfl rfl (Nat.le_of_ble_eq_true rfl) ?_
      refine (c_trim G l o as M0 N S (d + 1) q (na - (m + 1) + 1) (by omega) (by omega) σ59 (dg (va.natAbs * s / (vb.natAbs * s))) ((va.natAbs / vb.natAbs : Nat) : Int) (fun j _ => dg_lt _ _) (fun j hj => by rw [k59.2.2.2.2 _ (by omega), f256, f249]; exact u49 j hj) (by rw [hdiv, val_dg hdivlt, Int.natAbs_natCast]) (fun h => by rw [(k59.2.2.2.1 q (Ne.symm haq)).2, (k256.2.2.2.1 q (Ne.symm haq)).2, g249, hsq49, sg_pos (Int.ofNat_lt.mpr hdivpos)])).mono (fun x σ69 hp => ?_)
      obtain ⟨rfl, k69, r69⟩ := hp
      intro M hM
      show xX G l _ (d + 2) _ _ _ [] M N S
      refine x_aload_n (q := 277) dX9_divide_276 rfl rfl ?_
      refine x_iload_n (q := 278) dX9_divide_277 rfl rfl ?_
      refine x_lload (q := 280) dX9_divide_278 rfl rfl ?_
      refine m_call (q := 283) (As := [_, _]) hM imX9_divideSmall ivX9_divideSmall ilX9_divideSmall mwX9_125 xciX9 dX9_divide_280 rfl rfl rfl (Nat.le_of_ble_eq_true rfl) ?_
      refine (c_divideSmall G l o as M0 N S d a (by omega) s s0 s9 σ69 _ (by omega) (k69.reg haq r59)).mono (fun x σ79 hp => ?_)
      obtain ⟨rfl, k79, r79⟩ := hp
      intro M hM
      rw [Int.natAbs_natCast] at r79 ⊢
      rw [hmod, Nat.mul_div_cancel _ s0] at r79
      have hRq := k79.reg (Ne.symm haq) r69
      have hRa := r79
      have hK : keeps [a, q, 15] σ σ79 := ((((((((((k6.s (by simp)).trans (k13.s (by simp))).trans (k9.s (by simp))).trans (k19.s (by simp))).trans (k29.s (by simp))).trans (k39.s (by simp))).trans (k49.mono (by intro r hr; simp at hr ⊢; omega))).trans ((k249.s (by simp)).trans (k256.s (by simp)))).trans (k59.s (by simp))).trans (k69.s (by simp))).trans (k79.s (by simp))
      refine x_pop2 (q := 284) dX9_divide_283 rfl rfl ?_
      exact x_vret rfl dX9_divide_284 (m_ret hM ⟨rfl, hK, hRa, hRq⟩)
    · refine x_aload_n (q := 61) dX9_divide_60 rfl rfl ?_
      refine m_get (q := 64) hM 14 fwX9_41 (by decide) dX9_divide_61 rfl rfl ?_
      refine xn_sipush (q := 67) 400 dX9_divide_64 rfl (by decide) ?_
      refine x_iload_n (q := 68) dX9_divide_67 rfl rfl ?_
      refine xn_imul (q := 69) dX9_divide_68 rfl ?_
      refine m_iald (q := 70) hM (n := 6400) (by decide) dX9_divide_69 rfl (by omega) ?_
      rw [show σ13.2.1 14 (400 * b) = nI vb.natAbs from by have := hlb 0 (by omega); rw [Nat.add_zero] at this; rw [this]; unfold dg; rw [Nat.pow_zero, Nat.div_one, Nat.mod_eq_of_lt (by have := hnb.1; rw [hc57, Nat.pow_one] at this; exact this)]]
      have hb9 : vb.natAbs < 1000000000 := by have := hnb.1; rw [hc57, Nat.pow_one] at this; exact this
      refine xn_i2l (q := 71) dX9_divide_70 rfl (by omega) ?_
      refine x_lstore (q := 73) (ls' := [(0, _), (1, _), (2, _), (3, _), (4, _)]) [1, 2, 3, 4, 0] dX9_divide_71 rfl (by decide) rfl ?_
      refine x_aload_n (q := 74) dX9_divide_73 rfl rfl ?_
      refine x_iload_n (q := 75) dX9_divide_74 rfl rfl ?_
      refine x_iload_n (q := 76) dX9_divide_75 rfl rfl ?_
      refine m_call (q := 79) (As := [_, _]) hM imX9_copy ivX9_copy ilX9_copy mwX9_107 xciX9 dX9_divide_76 rfl rfl rfl (Nat.le_of_ble_eq_true rfl) ?_
      refine (c_copy G l o as M0 N S (d + 1) a q (by omega) (by omega) haq σ13 _ hra).mono (fun x σ9 hp => ?_)
      obtain ⟨rfl, k9, r9⟩ := hp
      intro M hM
      show xX G l _ (d + 2) _ _ _ [] M N S
      refine x_aload_n (q := 80) dX9_divide_79 rfl rfl ?_
      refine x_iload_n (q := 81) dX9_divide_80 rfl rfl ?_
      refine x_aload_n (q := 82) dX9_divide_81 rfl rfl ?_
      refine x_iload_n (q := 83) dX9_divide_82 rfl rfl ?_
      refine x_lload (q := 85) dX9_divide_83 rfl rfl ?_
      refine m_call (q := 88) (As := [_, _]) hM imX9_divideSmall ivX9_divideSmall ilX9_divideSmall mwX9_125 xciX9 dX9_divide_85 rfl rfl rfl (Nat.le_of_ble_eq_true rfl) ?_
      refine (c_divideSmall G l o as M0 N S d q (by omega) vb.natAbs hB0 (by omega) σ9 _ (by omega) r9).mono (fun x σ19 hp => ?_)
      obtain ⟨rfl, k19, r19⟩ := hp
      intro M hM
      rw [Int.natAbs_natCast] at r19 ⊢
      show xX G l _ (d + 2) _ _ _ [.long (lN (va.natAbs % vb.natAbs)), .int (nI a), .ref o] M N S
      refine m_call (q := 91) (As := [_, _]) hM imX9_put ivX9_put ilX9_put mwX9_121 xciX9 dX9_divide_88 rfl rfl rfl (Nat.le_of_ble_eq_true rfl) ?_
      have hmlt : va.natAbs % vb.natAbs < 1000000000 := Nat.lt_trans (Nat.mod_lt _ hB0) hb9
      refine (c_put G l o as M0 N S (d + 1) a (by omega) (lN (va.natAbs % vb.natAbs)) ((va.natAbs % vb.natAbs : Nat) : Int) (pk_lT (by omega)) (by omega) σ19).mono (fun x σ29 hp => ?_)
      obtain ⟨rfl, k29, r29⟩ := hp
      intro M hM
      show xX G l _ (d + 2) _ _ _ [] M N S
      exact x_vret rfl dX9_divide_91 (m_ret hM ⟨rfl, ((((k6.s (by simp)).trans (k13.s (by simp))).trans (k9.s (by simp))).trans (k19.s (by simp))).trans (k29.s (by simp)), r29, k29.reg (Ne.symm haq) r19⟩)
  · refine x_aload_n (q := 24) dX9_divide_23 rfl rfl ?_
    refine x_iload_n (q := 25) dX9_divide_24 rfl rfl ?_
    refine xn_lconst (q := 26) 0 dX9_divide_25 rfl (by decide) ?_
    refine m_call (q := 29) (As := [_, _]) hM imX9_put ivX9_put ilX9_put mwX9_121 xciX9 dX9_divide_26 rfl rfl rfl (Nat.le_of_ble_eq_true rfl) ?_
    have hlt : va.natAbs < vb.natAbs := z3.mp hc20
    refine (c_put G l o as M0 N S (d + 1) q (by omega) (lN 0) 0 rfl (by decide) σ13).mono (fun x σ9 hp => ?_)
    obtain ⟨rfl, k9, r9⟩ := hp
    intro M hM
    show xX G l _ (d + 2) _ _ _ [] M N S
    have hma9 : Mag σ9 a va.natAbs := by
      obtain ⟨m, b1, b2, b3, b4⟩ := hma1
      exact ⟨m, b1, b2, (k9.2.2.2.1 a haq).1.trans b3, fun j hj => (k9.2.2.2.2 _ (by omega)).trans (b4 j hj)⟩
    obtain ⟨na, hna4, hna, hza, hla⟩ := id hma9
    refine x_aload_n (q := 30) dX9_divide_29 rfl rfl ?_
    refine m_get (q := 33) hM 16 fwX9_47 (by decide) dX9_divide_30 rfl rfl ?_
    refine x_iload_n (q := 34) dX9_divide_33 rfl rfl ?_
    refine x_aload_n (q := 35) dX9_divide_34 rfl rfl ?_
    refine m_get (q := 38) hM 15 fwX9_44 (by decide) dX9_divide_35 rfl rfl ?_
    refine x_iload_n (q := 39) dX9_divide_38 rfl rfl ?_
    refine m_iald (q := 40) hM (n := 16) (by decide) dX9_divide_39 rfl (by omega) ?_
    rw [hza]
    refine xn_if_ne (q := 43) 47 dX9_divide_40 (by decide) rfl (by omega) (fun hc40 => ?_) (fun hc40 => ?_)
    · refine xn_iconst (q := 48) 1 dX9_divide_47 rfl (by decide) ?_
      refine m_sign (q := 49) hM dX9_divide_48 rfl (by omega) (fun M σ48 k48 e48 f48 g48 hM => ?_)
      have e1 : va.natAbs % vb.natAbs = va.natAbs := Nat.mod_eq_of_lt hlt
      have e2 : va.natAbs / vb.natAbs = 0 := Nat.div_eq_of_lt hlt
      refine x_vret rfl dX9_divide_49 (m_ret hM ⟨rfl, (((k6.s (by simp)).trans (k13.s (by simp))).trans (k9.s (by simp))).trans (k48.s (by simp)), ?_, ?_⟩)
      · rw [e1]
        refine Mag.reg (hma9.of f48 g48) _ (Int.natAbs_natCast _) ?_
        rw [e48]
        have hn0 := nl_zero_iff hna
        first | (rw [hn0.mp hc40]; rfl) | (rw [sg_pos (show (0 : Int) < (va.natAbs : Int) by omega)]; rfl)
      · rw [e2]; exact k48.reg (Ne.symm haq) r9
    · refine xn_iconst (q := 44) 0 dX9_divide_43 rfl (by decide) ?_
      refine x_goto 48 dX9_divide_44 (by decide) ?_
      refine m_sign (q := 49) hM dX9_divide_48 rfl (by omega) (fun M σ48 k48 e48 f48 g48 hM => ?_)
      have e1 : va.natAbs % vb.natAbs = va.natAbs := Nat.mod_eq_of_lt hlt
      have e2 : va.natAbs / vb.natAbs = 0 := Nat.div_eq_of_lt hlt
      refine x_vret rfl dX9_divide_49 (m_ret hM ⟨rfl, (((k6.s (by simp)).trans (k13.s (by simp))).trans (k9.s (by simp))).trans (k48.s (by simp)), ?_, ?_⟩)
      · rw [e1]
        refine Mag.reg (hma9.of f48 g48) _ (Int.natAbs_natCast _) ?_
        rw [e48]
        have hn0 := nl_zero_iff hna
        first | (rw [hn0.mp hc40]; rfl) | (rw [sg_pos (show (0 : Int) < (va.natAbs : Int) by omega)]; rfl)
      · rw [e2]; exact k48.reg (Ne.symm haq) r9
end XV
