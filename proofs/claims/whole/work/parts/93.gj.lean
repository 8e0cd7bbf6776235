section ZJ
theorem zE_Z (P : Nat → Nat → Int) (p q : Nat → Nat) (k x y : Nat) : zE P p q k x y = zP P p q k * P x y - zS k (fun b => P x (q b) * zT P p q k b y) := by
  let A : Nat → Nat → Int := fun a b => P (if a < k then p a else x) (if b < k then q b else y)
  have hA : zE P p q k x y = zD (k+1) A := rfl
  have h := zF_lin (fun w => zD (k+1) (fun a b => if a = k then w b else A a b)) (k+1) (fun w v h => zD_congr (fun a b _ hb => by rw [h b hb])) (fun w v s t => zD_rowL (k+1) (by omega) A w v s t) (A k)
  have e0 : zD (k+1) (fun a b => if a = k then A k b else A a b) = zD (k+1) A := zD_congr (fun a b _ _ => by
    by_cases e : a = k
    · rw [if_pos e, e]
    · rw [if_neg e])
  have e1 : zD (k+1) (fun a b => if a = k then (if b = k then (1 : Int) else 0) else A a b) = zP P p q k := by
    rw [zD_b1 k _ (fun b hb => by simp only [if_pos, if_neg (show ¬ b = k by omega)])]
    simp only [if_pos, Int.one_mul]
    refine zD_congr (fun r b hr hb => ?_)
    rw [if_neg (by omega)]
    show P (if r < k then p r else x) (if b < k then q b else y) = _
    rw [if_pos hr, if_pos hb]
  have e2 : ∀ c, c < k → zD (k+1) (fun a b => if a = k then (if b = c then (1 : Int) else 0) else A a b) = -zT P p q k c y := by
    intro c hc
    rw [zD_f k _ hc (fun b hb hne => by simp only [if_pos, if_neg hne])]
    simp only [if_pos, if_neg (show ¬ k = c by omega), Int.zero_mul, Int.one_mul, Int.zero_sub]
    congr 1
    refine zD_congr (fun r b hr hb => ?_)
    have hr' : ¬ r = k := by omega
    simp only [if_neg hr']
    show (if b = c then P (if r < k then p r else x) (if k < k then q k else y) else P (if r < k then p r else x) (if b < k then q b else y)) = _
    rw [if_pos hr, if_neg (show ¬ k < k by omega), if_pos hb]
    split
    · rfl
    · rfl
  rw [hA, ← e0]
  refine h.trans ?_
  simp only [zS]
  rw [e1]
  have e3 : zS k (fun a => zD (k+1) (fun a_1 b => if a_1 = k then (if b = a then (1 : Int) else 0) else A a_1 b) * A k a) = -zS k (fun b => P x (q b) * zT P p q k b y) := by
    rw [show -zS k (fun b => P x (q b) * zT P p q k b y) = (-1) * zS k (fun b => P x (q b) * zT P p q k b y) by omega, ← zS_mul]
    refine zS_congr (fun c hc => ?_)
    rw [e2 c hc]
    show _ * P (if k < k then p k else x) (if c < k then q c else y) = _
    rw [if_neg (show ¬ k < k by omega), if_pos hc]
    grind
  rw [e3]
  show _ + _ * P (if k < k then p k else x) (if k < k then q k else y) = _
  rw [if_neg (show ¬ k < k by omega), if_neg (show ¬ k < k by omega)]
  omega
theorem zT_row (P : Nat → Nat → Int) (p q : Nat → Nat) (k : Nat) {a : Nat} (ha : a < k) : ∃ C : Nat → Int, ∀ y, zT P p q k a y = zS k (fun l => C l * P (p l) y) := by
  refine ⟨fun l => zD k (fun r b => if b = a then (if r = l then 1 else 0) else P (p r) (q b)), fun y => ?_⟩
  have h := zF_lin (fun v => zD k (fun r b => if b = a then v r else P (p r) (q b))) k (fun w v h => zD_congr (fun r b hr _ => by rw [h r hr])) (fun w v s t => zD_colL k ha (fun r b => P (p r) (q b)) w v s t) (fun r => P (p r) y)
  refine Eq.trans ?_ h
  refine zD_congr (fun r b _ _ => ?_)
  split
  · rfl
  · rfl
/-- the columns' numbers as they are -/
def zi (j : Nat) : Nat := j
/-- only 0 solves the system without right side -/
def zReg (A : Nat → Nat → Int) (n : Nat) : Prop := ∀ x : Nat → Int, (∀ r, r < n → zS n (fun j => A r j * x j) = 0) → ∀ j, j < n → x j = 0
theorem zS_trunc {n k : Nat} {f g : Nat → Int} (hk : k < n) (h1 : ∀ i, i < k → f i = g i) (h2 : ∀ i, k < i → i < n → f i = 0) : zS n f = zS k g + f k := by
  induction n with
  | zero => omega
  | succ n ih =>
    simp only [zS]
    by_cases e : k = n
    · rw [e]; rw [zS_congr (fun i hi => h1 i (by omega))]
    · rw [ih (by omega) (fun i hi hn => h2 i hi (by omega)), h2 n (by omega) (by omega)]; omega
theorem zpiv {A : Nat → Nat → Int} {n : Nat} (reg : zReg A n) {p : Nat → Nat} (hs : ∀ r, r < n → ∃ i, i < n ∧ p i = r) {k : Nat} (hk : k < n) (hd : zP A p zi k ≠ 0) : ∃ i, k ≤ i ∧ i < n ∧ zE A p zi k (p i) k ≠ 0 := by
  refine Classical.byContradiction (fun hno => ?_)
  have h0 : ∀ r, r < n → zE A p zi k r k = 0 := by
    intro r hr
    obtain ⟨i, hi, rfl⟩ := hs r hr
    by_cases e : i < k
    · exact zE_r0 A p zi k k e
    · refine Classical.byContradiction (fun hne => hno ⟨i, by omega, hi, hne⟩)
  have := reg (fun j => if j < k then -zT A p zi k j k else if j = k then zP A p zi k else 0) (fun r hr => by
    have hz := zE_Z A p zi k r k
    rw [h0 r hr] at hz
    rw [zS_trunc hk (g := fun b => (-1) * (A r (zi b) * zT A p zi k b k)) (fun i hi => by simp only [if_pos hi]; show A r i * _ = -1 * (A r i * _); grind) (fun i hi _ => by simp only [if_neg (show ¬ i < k by omega), if_neg (show ¬ i = k by omega), Int.mul_zero]), zS_mul]
    simp only [if_neg (show ¬ k < k by omega), if_pos]
    rw [Int.mul_comm (A r k)]
    omega) k hk
  simp only [if_neg (show ¬ k < k by omega), if_pos] at this
  exact hd this
theorem pivR_ex {W : Nat → Nat → Int} {c : Nat} : ∀ t k, (∃ i, k ≤ i ∧ i < k + t ∧ W i c ≠ 0) → pivR W c t k < k + t
  | 0, k, ⟨i, h1, h2, _⟩ => by omega
  | t + 1, k, ⟨i, h1, h2, h3⟩ => by
    unfold pivR
    by_cases e : W k c = 0
    · rw [if_pos e]
      have := pivR_ex t (k+1) ⟨i, by
        rcases Nat.eq_or_lt_of_le h1 with f | f
        · rw [← f] at h3; exact absurd e h3
        · omega, by omega, h3⟩
      omega
    · rw [if_neg e]; omega
/-- where the elimination stands: its numbers are minors -/
def zJ (A : Nat → Nat → Int) (n w k : Nat) (p : Nat → Nat) (M : Nat → Nat → Int) (d : Int) : Prop := (∀ i, i < n → p i < n) ∧ (∀ r, r < n → ∃ i, i < n ∧ p i = r) ∧ (zP A p zi k = d) ∧ (d ≠ 0) ∧ (∀ i j, k ≤ i → i < n → k ≤ j → j ≤ w → M i j = zE A p zi k (p i) j) ∧ (∀ i j, i < k → k ≤ j → j ≤ w → M i j = zT A p zi k i j)
theorem zJ.lt {A : Nat → Nat → Int} {n w k : Nat} {p : Nat → Nat} {M : Nat → Nat → Int} {d : Int} (h : zJ A n w k p M d) : ∀ i, i < n → p i < n := h.1
theorem zJ.sj {A : Nat → Nat → Int} {n w k : Nat} {p : Nat → Nat} {M : Nat → Nat → Int} {d : Int} (h : zJ A n w k p M d) : ∀ r, r < n → ∃ i, i < n ∧ p i = r := h.2.1
theorem zJ.pv {A : Nat → Nat → Int} {n w k : Nat} {p : Nat → Nat} {M : Nat → Nat → Int} {d : Int} (h : zJ A n w k p M d) : zP A p zi k = d := h.2.2.1
theorem zJ.ne {A : Nat → Nat → Int} {n w k : Nat} {p : Nat → Nat} {M : Nat → Nat → Int} {d : Int} (h : zJ A n w k p M d) : d ≠ 0 := h.2.2.2.1
theorem zJ.be {A : Nat → Nat → Int} {n w k : Nat} {p : Nat → Nat} {M : Nat → Nat → Int} {d : Int} (h : zJ A n w k p M d) : ∀ i j, k ≤ i → i < n → k ≤ j → j ≤ w → M i j = zE A p zi k (p i) j := h.2.2.2.2.1
theorem zJ.ab {A : Nat → Nat → Int} {n w k : Nat} {p : Nat → Nat} {M : Nat → Nat → Int} {d : Int} (h : zJ A n w k p M d) : ∀ i j, i < k → k ≤ j → j ≤ w → M i j = zT A p zi k i j := h.2.2.2.2.2
theorem zP_congr {P : Nat → Nat → Int} {p p' q : Nat → Nat} {k : Nat} (h : ∀ a, a < k → p a = p' a) : zP P p q k = zP P p' q k := zD_congr (fun a b ha _ => by rw [h a ha])
theorem zE_congr {P : Nat → Nat → Int} {p p' q : Nat → Nat} {k x y : Nat} (h : ∀ a, a < k → p a = p' a) : zE P p q k x y = zE P p' q k x y := zD_congr (fun a b _ _ => by
  by_cases e : a < k
  · rw [if_pos e, if_pos e, h a e]
  · rw [if_neg e, if_neg e])
theorem zT_congr {P : Nat → Nat → Int} {p p' q : Nat → Nat} {k a y : Nat} (h : ∀ a, a < k → p a = p' a) : zT P p q k a y = zT P p' q k a y := zD_congr (fun r b hr _ => by rw [h r hr])
def zs (p : Nat → Nat) (a b : Nat) : Nat → Nat := fun i => if i = a then p b else if i = b then p a else p i
theorem zJ.swap {A : Nat → Nat → Int} {n w k : Nat} {p : Nat → Nat} {M : Nat → Nat → Int} {d : Int} (h : zJ A n w k p M d) {v : Nat} (hv : k ≤ v) (hvn : v < n) (hk : k < n) : zJ A n w k (zs p v k) (if v = k then M else swM M v k) d := by
  have hc : ∀ a, a < k → p a = zs p v k a := fun a ha => by unfold zs; rw [if_neg (by omega), if_neg (by omega)]
  by_cases e : v = k
  · rw [if_pos e]
    have : zs p v k = p := by
      funext i; unfold zs; subst e
      split
      · rename_i e; rw [e]
      · rfl
    rw [this]; exact h
  · rw [if_neg e]
    refine ⟨fun i hi => ?_, fun r hr => ?_, by rw [← zP_congr hc]; exact h.pv, h.ne, fun i j h1 h2 h3 h4 => ?_, fun i j h1 h2 h3 => ?_⟩
    · unfold zs
      split
      · exact h.lt k hk
      · split
        · exact h.lt v hvn
        · exact h.lt i hi
    · obtain ⟨i, hi, hp⟩ := h.sj r hr
      by_cases e1 : i = v
      · exact ⟨k, hk, by unfold zs; rw [if_neg (by omega), if_pos rfl, ← e1]; exact hp⟩
      · by_cases e2 : i = k
        · exact ⟨v, hvn, by unfold zs; rw [if_pos rfl, ← e2]; exact hp⟩
        · exact ⟨i, hi, by unfold zs; rw [if_neg e1, if_neg e2]; exact hp⟩
    · rw [← zE_congr hc]
      unfold swM zs
      by_cases e1 : i = v
      · rw [if_pos e1, if_pos e1]; exact h.be k j (by omega) hk h3 h4
      · rw [if_neg e1, if_neg e1]
        by_cases e2 : i = k
        · rw [if_pos e2, if_pos e2]; exact h.be v j hv hvn h3 h4
        · rw [if_neg e2, if_neg e2]; exact h.be i j h1 h2 h3 h4
    · rw [← zT_congr hc]
      unfold swM
      rw [if_neg (by omega), if_neg (by omega)]
      exact h.ab i j h1 h2 h3
theorem zJ.les {A : Nat → Nat → Int} {n w k : Nat} {p : Nat → Nat} {M : Nat → Nat → Int} {d : Int} (h : zJ A n w k p M d) (hk : k < n) (hkw : k ≤ w) {i j : Nat} (hi : i < n) (hne : i ≠ k) (hj : k < j) (hjw : j ≤ w) : lesP M i k d j = if i < k then zT A p zi (k+1) i j else zE A p zi (k+1) (p i) j := by
  unfold lesP
  have hkk : M k k = zP A p zi (k+1) := by rw [h.be k k (by omega) hk (by omega) hkw]; exact zE_p A p zi k
  have hkj := h.be k j (by omega) hk (by omega) hjw
  by_cases e : i < k
  · rw [if_pos e, hkk, hkj, h.ab i j e (by omega) hjw, h.ab i k e (by omega) hkw]
    have := zT_step A p zi k j e
    rw [show zi k = k from rfl, h.pv] at this
    rw [← this]
    exact Int.mul_tdiv_cancel_left _ h.ne
  · rw [if_neg e, hkk, hkj, h.be i j (by omega) hi (by omega) hjw, h.be i k (by omega) hi (by omega) hkw]
    have := zE_step A p zi k (p i) j (by rw [h.pv]; exact h.ne)
    rw [show zi k = k from rfl, h.pv] at this
    rw [← this]
    exact Int.mul_tdiv_cancel_left _ h.ne
theorem zJ.step {A : Nat → Nat → Int} {n w k : Nat} {p : Nat → Nat} {M : Nat → Nat → Int} {d : Int} (h : zJ A n w k p M d) (hk : k < n) (hkw : k ≤ w) (h0 : M k k ≠ 0) : zJ A n w (k+1) p (lesT M k d w n) (M k k) := by
  have hkk : M k k = zP A p zi (k+1) := by rw [h.be k k (by omega) hk (by omega) hkw]; exact zE_p A p zi k
  refine ⟨h.lt, h.sj, hkk.symm, h0, fun i j h1 h2 h3 h4 => ?_, fun i j h1 h2 h3 => ?_⟩
  · unfold lesT
    rw [if_pos ⟨by omega, h2, by omega, h4⟩, h.les hk hkw h2 (by omega) (by omega) h4, if_neg (by omega)]
  · unfold lesT
    by_cases e : i = k
    · rw [if_neg (by omega), e, h.be k j (by omega) hk (by omega) h3]
      exact (zT_k A p zi k j).symm
    · rw [if_pos ⟨e, by omega, by omega, h3⟩, h.les hk hkw (by omega) e (by omega) h3, if_pos (by omega)]
theorem zJ_all {A : Nat → Nat → Int} {n w : Nat} (hw : n ≤ w) (reg : zReg A n) : ∀ k, k ≤ n → ∃ p, zJ A n w k p (gjS A n w k).1 (gjS A n w k).2
  | 0, _ => ⟨fun i => i, fun _ h => h, fun r h => ⟨r, h, rfl⟩, rfl, by show (1 : Int) ≠ 0; decide, fun i j _ _ _ _ => by
      show A i j = zD 1 _
      simp only [zD, zS, zG_0]
      rw [if_neg (by omega), if_neg (by omega)]; omega, fun i j h => by omega⟩
  | k + 1, hk => by
    obtain ⟨p, h⟩ := zJ_all hw reg k (by omega)
    obtain ⟨i, h1, h2, h3⟩ := zpiv reg h.sj (by omega : k < n) (by rw [h.pv]; exact h.ne)
    have hp := pivR_ex (W := (gjS A n w k).1) (c := k) (n - k) k ⟨i, h1, by omega, by rw [h.be i k h1 h2 (by omega) (by omega)]; exact h3⟩
    have hp' := (pivR_ge (gjS A n w k).1 k (n - k) k).1
    have hs := h.swap hp' (by omega) (by omega : k < n)
    have hb : gjB (gjS A n w k).1 k n = if pivR (gjS A n w k).1 k (n - k) k = k then (gjS A n w k).1 else swM (gjS A n w k).1 (pivR (gjS A n w k).1 k (n - k) k) k := rfl
    rw [← hb] at hs
    exact ⟨_, hs.step (by omega) (by omega) (gjB_ne (by omega) (by omega))⟩
theorem zM_c (K : Int) : ∀ n, zM n (fun _ => K) = K ^ n
  | 0 => by rw [zM, Int.pow_zero]
  | n+1 => by rw [zM, zM_c K n, Int.pow_succ, Int.mul_comm]
theorem zD_u (n : Nat) (A : Nat → Nat → Int) (K : Nat) (h : ∀ a b, a < n → b < n → (A a b).natAbs * n ≤ K) : (zD n A).natAbs ≤ K ^ n := by
  have := zD_bd n A (fun _ => (K : Int)) (fun b hb => by
    have h2 : ∀ t, t ≤ n → zS t (fun a => ((A a b).natAbs : Int)) * n ≤ t * (K : Int) := by
      intro t
      induction t with
      | zero => intro _; simp only [zS]; omega
      | succ t ih =>
        intro ht
        simp only [zS]
        have h3 := ih (by omega)
        have h4 := h t b (by omega) hb
        have h5 : ((A t b).natAbs : Int) * n ≤ K := by rw [← Int.natCast_mul]; omega
        rw [Int.add_mul, Int.natCast_add, Int.add_mul]; omega
    have h3 := h2 n (Nat.le_refl _)
    rw [Int.mul_comm (n : Int)] at h3
    exact Int.le_of_mul_le_mul_right h3 (by omega))
  rw [zM_c, ← Int.natCast_pow] at this
  omega
/-- the whole elimination goes through, and its numbers stay small -/
theorem gj_ok {A : Nat → Nat → Int} {n w : Nat} (hw : n ≤ w) (hn : n ≤ 12) (reg : zReg A n) (hA : ∀ i j, i < n → j ≤ w → (A i j).natAbs ≤ 80000000) : gjOk A n w := by
  intro k hk
  obtain ⟨p, h⟩ := zJ_all hw reg k (by omega)
  obtain ⟨i, h1, h2, h3⟩ := zpiv reg h.sj hk (by rw [h.pv]; exact h.ne)
  have hp := pivR_ex (W := (gjS A n w k).1) (c := k) (n - k) k ⟨i, h1, by omega, by rw [h.be i k h1 h2 (by omega) (by omega)]; exact h3⟩
  have hp' := (pivR_ge (gjS A n w k).1 k (n - k) k).1
  have hs := h.swap hp' (by omega) (by omega : k < n)
  have hb : gjB (gjS A n w k).1 k n = if pivR (gjS A n w k).1 k (n - k) k = k then (gjS A n w k).1 else swM (gjS A n w k).1 (pivR (gjS A n w k).1 k (n - k) k) k := rfl
  rw [← hb] at hs
  refine ⟨by omega, fun i hi hne j hj hjw => ?_⟩
  rw [hs.les hk (by omega) hi hne hj hjw]
  have hbig : ∀ t, t ≤ 13 → 1000000000 ^ t < B9 ^ 24 := fun t ht => Nat.lt_of_le_of_lt (Nat.pow_le_pow_right (by decide) ht) (by decide)
  split
  · refine Nat.lt_of_le_of_lt (zD_u (k+1) _ 1000000000 (fun a b ha hb => ?_)) (hbig _ (by omega))
    have h4 := hA (zs p (pivR (gjS A n w k).1 k (n - k) k) k a) (if b = i then j else zi b) (hs.lt a (by omega)) (by
      split
      · exact hjw
      · show b ≤ w; omega)
    have := Nat.mul_le_mul h4 (show k + 1 ≤ 12 by omega)
    omega
  · refine Nat.lt_of_le_of_lt (zD_u (k+2) _ 1200000000 (fun a b ha hb => ?_)) (Nat.lt_of_le_of_lt (Nat.pow_le_pow_right (by decide) (show k + 2 ≤ 13 by omega)) (by decide))
    have h4 := hA (if a < k + 1 then zs p (pivR (gjS A n w k).1 k (n - k) k) k a else zs p (pivR (gjS A n w k).1 k (n - k) k) k i) (if b < k + 1 then zi b else j) (by
      split
      · exact hs.lt a (by omega)
      · exact hs.lt i hi) (by
      split
      · show b ≤ w; omega
      · exact hjw)
    have := Nat.mul_le_mul h4 (show k + 2 ≤ 13 by omega)
    omega
/-- what the elimination's numbers solve -/
theorem gj_sol {A : Nat → Nat → Int} {n w : Nat} (hw : n ≤ w) (reg : zReg A n) : (gjS A n w n).2 ≠ 0 ∧ ∀ y, n ≤ y → y ≤ w → ∀ r, r < n → zS n (fun j => A r j * (gjS A n w n).1 j y) = (gjS A n w n).2 * A r y := by
  obtain ⟨p, h⟩ := zJ_all hw reg n (Nat.le_refl _)
  refine ⟨h.ne, fun y h1 h2 r hr => ?_⟩
  obtain ⟨i, hi, rfl⟩ := h.sj r hr
  have hz := zE_Z A p zi n (p i) y
  rw [zE_r0 A p zi n y hi, h.pv] at hz
  rw [zS_congr (g := fun b => A (p i) (zi b) * zT A p zi n b y) (fun j hj => by rw [h.ab j y hj h1 h2]; rfl)]
  omega
end ZJ
