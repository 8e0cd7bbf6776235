section ZW
/-- the matrix with the unit columns behind it -/
def zQ (K : Nat → Nat → Int) : Nat → Nat → Int := fun x y => if y < 10 then K x y else if x + 10 = y then 1 else 0
theorem zQ_lt {K : Nat → Nat → Int} {x y : Nat} (h : y < 10) : zQ K x y = K x y := if_pos h
theorem zQ_u {K : Nat → Nat → Int} {x z : Nat} : zQ K x (10 + z) = if x = z then 1 else 0 := by
  unfold zQ
  rw [if_neg (by omega)]
  by_cases e : x = z
  · rw [if_pos (by omega), if_pos e]
  · rw [if_neg (by omega), if_neg e]
def zSy (K : Nat → Nat → Int) : Prop := ∀ i j, i < 10 → j < 10 → K i j = K j i
def zPs (K : Nat → Nat → Int) : Prop := ∀ x : Nat → Int, 0 ≤ zS 10 (fun i => x i * zS 10 (fun j => K i j * x j))
theorem zE_sym {K : Nat → Nat → Int} (hK : zSy K) {p : Nat → Nat} {k i j : Nat} (hp : ∀ a, a < k → p a < 10) (hi : i < 10) (hj : j < 10) : zE (zQ K) p p k i j = zE (zQ K) p p k j i := by
  unfold zE
  rw [← zD_t]
  refine zD_congr (fun a b _ _ => ?_)
  have h1 : (if a < k then p a else j) < 10 := by
    split
    · exact hp a (by assumption)
    · exact hj
  have h2 : (if b < k then p b else i) < 10 := by
    split
    · exact hp b (by assumption)
    · exact hi
  show zQ K (if b < k then p b else i) (if a < k then p a else j) = zQ K (if a < k then p a else j) (if b < k then p b else i)
  rw [zQ_lt h1, zQ_lt h2]
  exact hK _ _ h2 h1
theorem zU {K : Nat → Nat → Int} (hK : zSy K) {p : Nat → Nat} {k x b : Nat} (hp : ∀ a, a < k → p a < 10) (inj : ∀ a a', a < k → a' < k → p a = p a' → a = a') (hx : x < 10) (hxn : ∀ a, a < k → p a ≠ x) (hb : b < k) : zE (zQ K) p p k x (10 + p b) = -zT (zQ K) p p k b x := by
  unfold zE
  rw [← zD_t, zD_f k _ hb]
  · have e1 : zQ K (if k < k then p k else x) (if k < k then p k else 10 + p b) = 0 := by
      rw [if_neg (by omega), if_neg (by omega), zQ_u, if_neg (fun e => hxn b hb e.symm)]
    have e2 : zQ K (if b < k then p b else x) (if k < k then p k else 10 + p b) = 1 := by
      rw [if_pos hb, if_neg (by omega), zQ_u, if_pos rfl]
    rw [e1, e2, Int.zero_mul, Int.one_mul, Int.zero_sub]
    congr 1
    refine zD_congr (fun r c hr hc => ?_)
    show (if c = b then zQ K (if k < k then p k else x) (if r < k then p r else 10 + p b) else zQ K (if c < k then p c else x) (if r < k then p r else 10 + p b)) = zQ K (p r) (if c = b then x else p c)
    rw [if_neg (show ¬ k < k by omega), if_pos hr, if_pos hc]
    by_cases e : c = b
    · rw [if_pos e, if_pos e, zQ_lt (hp r hr), zQ_lt hx]; exact hK _ _ hx (hp r hr)
    · rw [if_neg e, if_neg e, zQ_lt (hp r hr), zQ_lt (hp c hc)]; exact hK _ _ (hp c hc) (hp r hr)
  · intro b' hb' hne
    show zQ K (if b' < k then p b' else x) (if k < k then p k else 10 + p b) = 0
    rw [if_pos hb', if_neg (by omega), zQ_u, if_neg (fun e => hne (inj b' b hb' hb e))]
theorem zT_e0 {K : Nat → Nat → Int} {p : Nat → Nat} {k t b : Nat} (hn : ∀ a, a < k → p a ≠ t) (hb : b < k) : zT (zQ K) p p k b (10 + t) = 0 := by
  obtain ⟨C, hC⟩ := zT_row (zQ K) p p k hb
  rw [hC]
  exact zS_zero (fun l hl => by rw [zQ_u, if_neg (hn l hl), Int.mul_zero])
theorem zE_et {K : Nat → Nat → Int} {p : Nat → Nat} {k t : Nat} (hn : ∀ a, a < k → p a ≠ t) : zE (zQ K) p p k t (10 + t) = zP (zQ K) p p k := by
  rw [zE_Z, zQ_u, if_pos rfl, zS_zero (fun b hb => by rw [zT_e0 hn hb, Int.mul_zero])]; omega
/-- how the swept ones follow one that is not -/
def zX (K : Nat → Nat → Int) (p : Nat → Nat) (k j : Nat) : Nat → Int := fun l => zS k (fun b => if p b = l then -zT (zQ K) p p k b j else 0) + (if l = j then zP (zQ K) p p k else 0)
theorem zX_sum {p : Nat → Nat} {k j : Nat} (v : Nat → Int) (D : Int) (hp : ∀ a, a < k → p a < 10) (hj : j < 10) (f : Nat → Int) : zS 10 (fun l => (zS k (fun b => if p b = l then v b else 0) + (if l = j then D else 0)) * f l) = zS k (fun b => v b * f (p b)) + D * f j := by
  have e1 : ∀ l, l < 10 → (zS k (fun b => if p b = l then v b else 0) + (if l = j then D else 0)) * f l = zS k (fun b => (if p b = l then v b else 0) * f l) + (if l = j then D else 0) * f l := fun l _ => by
    rw [Int.add_mul, Int.mul_comm (zS k _), ← zS_mul]
    congr 1
    exact zS_congr (fun b _ => Int.mul_comm _ _)
  rw [zS_congr e1, zS_add, zS_swap]
  congr 1
  · refine zS_congr (fun b hb => ?_)
    rw [zS_one (hp b hb) (fun l _ hne => by rw [if_neg (Ne.symm hne), Int.zero_mul]), if_pos rfl]
  · rw [zS_one hj (fun l _ hne => by rw [if_neg hne, Int.zero_mul]), if_pos rfl]
theorem zX_K {K : Nat → Nat → Int} {p : Nat → Nat} {k j : Nat} (hp : ∀ a, a < k → p a < 10) (hj : j < 10) (r : Nat) : zS 10 (fun l => K r l * zX K p k j l) = zE (zQ K) p p k r j := by
  rw [zS_congr (g := fun l => zX K p k j l * K r l) (fun l _ => Int.mul_comm _ _)]
  refine (zX_sum (fun b => -zT (zQ K) p p k b j) (zP (zQ K) p p k) hp hj (K r)).trans ?_
  rw [zE_Z, zQ_lt hj, zS_congr (f := fun b => -zT (zQ K) p p k b j * K r (p b)) (g := fun b => (-1) * (zQ K r (p b) * zT (zQ K) p p k b j)) (fun b hb => by rw [zQ_lt (hp b hb)]; grind), zS_mul]
  omega
theorem zX_E {K : Nat → Nat → Int} {p : Nat → Nat} {k i j : Nat} (hp : ∀ a, a < k → p a < 10) (hi : i < 10) : zS 10 (fun l => zX K p k i l * zE (zQ K) p p k l j) = zP (zQ K) p p k * zE (zQ K) p p k i j := by
  refine (zX_sum (fun b => -zT (zQ K) p p k b i) (zP (zQ K) p p k) hp hi (fun l => zE (zQ K) p p k l j)).trans ?_
  rw [zS_zero (fun b hb => by rw [zE_r0 (zQ K) p p k j hb, Int.mul_zero])]; omega
theorem z_form {K : Nat → Nat → Int} (hP : zPs K) {p : Nat → Nat} {k i j : Nat} (hp : ∀ a, a < k → p a < 10) (hi : i < 10) (hj : j < 10) (s u : Int) : 0 ≤ zP (zQ K) p p k * (s * s * zE (zQ K) p p k i i + s * u * (zE (zQ K) p p k i j + zE (zQ K) p p k j i) + u * u * zE (zQ K) p p k j j) := by
  have h := hP (fun l => s * zX K p k i l + u * zX K p k j l)
  have e1 : ∀ r, zS 10 (fun l => K r l * (s * zX K p k i l + u * zX K p k j l)) = s * zE (zQ K) p p k r i + u * zE (zQ K) p p k r j := fun r => by
    rw [zS_congr (g := fun l => s * (K r l * zX K p k i l) + u * (K r l * zX K p k j l)) (fun l _ => by grind), zS_lin, zX_K hp hi, zX_K hp hj]
  rw [zS_congr (g := fun l => s * (s * (zX K p k i l * zE (zQ K) p p k l i) + u * (zX K p k i l * zE (zQ K) p p k l j)) + u * (s * (zX K p k j l * zE (zQ K) p p k l i) + u * (zX K p k j l * zE (zQ K) p p k l j))) (fun l _ => by rw [e1]; grind), zS_lin, zS_lin, zS_lin, zX_E hp hi, zX_E hp hi, zX_E hp hj, zX_E hp hj] at h
  refine Int.le_trans h (Int.le_of_eq ?_)
  grind
theorem sq_pos {e : Int} (h : e ≠ 0) : 1 ≤ e * e := by
  rcases Int.lt_or_gt_of_ne h with h | h
  · have := Int.mul_pos_of_neg_of_neg h h; omega
  · have := Int.mul_pos h h; omega
theorem z_zero {K : Nat → Nat → Int} (hK : zSy K) (hP : zPs K) {p : Nat → Nat} {k i j : Nat} (hp : ∀ a, a < k → p a < 10) (hi : i < 10) (hj : j < 10) (hD : 0 < zP (zQ K) p p k) (h0 : zE (zQ K) p p k i i = 0) : zE (zQ K) p p k i j = 0 := by
  have hs := zE_sym hK hp hj hi
  have h1 := z_form hP hp hi hj 0 1
  have h2 := z_form hP hp hi hj (-zE (zQ K) p p k i j * (zE (zQ K) p p k j j + 1)) 1
  rw [hs, h0] at h1 h2
  generalize zE (zQ K) p p k i j = e at *
  generalize zE (zQ K) p p k j j = g at *
  generalize zP (zQ K) p p k = D at *
  have q1 : 0 ≤ g := by
    have : 0 ≤ D * g := by
      refine Int.le_trans h1 (Int.le_of_eq ?_); grind
    exact Int.nonneg_of_mul_nonneg_right this hD
  have q2 : 0 ≤ g - 2 * (e * e) * (g + 1) := by
    have : 0 ≤ D * (g - 2 * (e * e) * (g + 1)) := by
      refine Int.le_trans h2 (Int.le_of_eq ?_); grind
    exact Int.nonneg_of_mul_nonneg_right this hD
  refine Classical.byContradiction (fun hne => ?_)
  have q3 := sq_pos hne
  have q4 : 1 * (g + 1) ≤ e * e * (g + 1) := Int.mul_le_mul_of_nonneg_right q3 (by omega)
  rw [Int.mul_assoc] at q2
  omega
theorem z_pos {K : Nat → Nat → Int} (hP : zPs K) {p : Nat → Nat} {k i : Nat} (hp : ∀ a, a < k → p a < 10) (hi : i < 10) (hD : 0 < zP (zQ K) p p k) : 0 ≤ zE (zQ K) p p k i i := by
  have h1 := z_form hP hp hi hi 0 1
  generalize zE (zQ K) p p k i i = g at *
  generalize zP (zQ K) p p k = D at *
  have : 0 ≤ D * g := by
    refine Int.le_trans h1 (Int.le_of_eq ?_); grind
  exact Int.nonneg_of_mul_nonneg_right this hD
/-- where the sweeping stands: its numbers are minors -/
def zW (K : Nat → Nat → Int) (fr : Nat → Bool) (t k : Nat) (p : Nat → Nat) (A : Nat → Nat → Int) (y : Int) (sw : Nat → Bool) : Prop := (∀ a, a < k → p a < t ∧ fr (p a) = true ∧ sw (p a) = true) ∧ (∀ a b, a < b → b < k → p a < p b) ∧ (∀ i, sw i = true → ∃ a, a < k ∧ p a = i) ∧ (zP (zQ K) p p k = y) ∧ (0 < y) ∧ (∀ i j, i < 10 → j < 10 → fr i = true → fr j = true → sw i = false → sw j = false → clP A i j = zE (zQ K) p p k i j) ∧ (∀ a j, a < k → j < 10 → fr j = true → sw j = false → clP A (p a) j = zT (zQ K) p p k a j) ∧ (∀ a b, a < k → b ≤ a → A (p a) (p b) = -zT (zQ K) p p k a (10 + p b)) ∧ (∀ i j, i < t → fr i = true → sw i = false → j < 10 → fr j = true → zE (zQ K) p p k i j = 0) ∧ (∀ i j, (fr i = false ∨ fr j = false) → A i j = K i j)
theorem zW.hp {K : Nat → Nat → Int} {fr : Nat → Bool} {t k : Nat} {p : Nat → Nat} {A : Nat → Nat → Int} {y : Int} {sw : Nat → Bool} (h : zW K fr t k p A y sw) : ∀ a, a < k → p a < t ∧ fr (p a) = true ∧ sw (p a) = true := h.1
theorem zW.inc {K : Nat → Nat → Int} {fr : Nat → Bool} {t k : Nat} {p : Nat → Nat} {A : Nat → Nat → Int} {y : Int} {sw : Nat → Bool} (h : zW K fr t k p A y sw) : ∀ a b, a < b → b < k → p a < p b := h.2.1
theorem zW.sj {K : Nat → Nat → Int} {fr : Nat → Bool} {t k : Nat} {p : Nat → Nat} {A : Nat → Nat → Int} {y : Int} {sw : Nat → Bool} (h : zW K fr t k p A y sw) : ∀ i, sw i = true → ∃ a, a < k ∧ p a = i := h.2.2.1
theorem zW.pv {K : Nat → Nat → Int} {fr : Nat → Bool} {t k : Nat} {p : Nat → Nat} {A : Nat → Nat → Int} {y : Int} {sw : Nat → Bool} (h : zW K fr t k p A y sw) : zP (zQ K) p p k = y := h.2.2.2.1
theorem zW.pos {K : Nat → Nat → Int} {fr : Nat → Bool} {t k : Nat} {p : Nat → Nat} {A : Nat → Nat → Int} {y : Int} {sw : Nat → Bool} (h : zW K fr t k p A y sw) : 0 < y := h.2.2.2.2.1
theorem zW.uu {K : Nat → Nat → Int} {fr : Nat → Bool} {t k : Nat} {p : Nat → Nat} {A : Nat → Nat → Int} {y : Int} {sw : Nat → Bool} (h : zW K fr t k p A y sw) : ∀ i j, i < 10 → j < 10 → fr i = true → fr j = true → sw i = false → sw j = false → clP A i j = zE (zQ K) p p k i j := h.2.2.2.2.2.1
theorem zW.su {K : Nat → Nat → Int} {fr : Nat → Bool} {t k : Nat} {p : Nat → Nat} {A : Nat → Nat → Int} {y : Int} {sw : Nat → Bool} (h : zW K fr t k p A y sw) : ∀ a j, a < k → j < 10 → fr j = true → sw j = false → clP A (p a) j = zT (zQ K) p p k a j := h.2.2.2.2.2.2.1
theorem zW.ss {K : Nat → Nat → Int} {fr : Nat → Bool} {t k : Nat} {p : Nat → Nat} {A : Nat → Nat → Int} {y : Int} {sw : Nat → Bool} (h : zW K fr t k p A y sw) : ∀ a b, a < k → b ≤ a → A (p a) (p b) = -zT (zQ K) p p k a (10 + p b) := h.2.2.2.2.2.2.2.1
theorem zW.sk {K : Nat → Nat → Int} {fr : Nat → Bool} {t k : Nat} {p : Nat → Nat} {A : Nat → Nat → Int} {y : Int} {sw : Nat → Bool} (h : zW K fr t k p A y sw) : ∀ i j, i < t → fr i = true → sw i = false → j < 10 → fr j = true → zE (zQ K) p p k i j = 0 := h.2.2.2.2.2.2.2.2.1
theorem zW.nf {K : Nat → Nat → Int} {fr : Nat → Bool} {t k : Nat} {p : Nat → Nat} {A : Nat → Nat → Int} {y : Int} {sw : Nat → Bool} (h : zW K fr t k p A y sw) : ∀ i j, (fr i = false ∨ fr j = false) → A i j = K i j := h.2.2.2.2.2.2.2.2.2
theorem clP_sym (A : Nat → Nat → Int) (i j : Nat) : clP A i j = clP A j i := by unfold clP; rw [Nat.max_comm, Nat.min_comm]
theorem clP_d (A : Nat → Nat → Int) (i : Nat) : clP A i i = A i i := by unfold clP; rw [Nat.max_self, Nat.min_self]
theorem clP_ge {A : Nat → Nat → Int} {i j : Nat} (h : j ≤ i) : clP A i j = A i j := by unfold clP; rw [Nat.max_eq_left h, Nat.min_eq_right h]
theorem clP_n {fr : Nat → Bool} {A : Nat → Nat → Int} {y v : Int} {t i j : Nat} (hi : i ≠ t) (hj : j ≠ t) (fi : fr i = true) (fj : fr j = true) : clP (m2 (swN fr t A y) t t v) i j = (clP A i j * A t t - clP A i t * clP A j t).tdiv y := by
  rcases Nat.le_total j i with h | h
  · rw [clP_ge h, clP_ge h]
    unfold m2
    rw [if_neg (by omega)]
    unfold swN
    rw [if_pos ⟨fi, fj, hi, hj⟩]
  · rw [clP_sym _ i j, clP_ge h, clP_sym A i j, clP_ge h]
    unfold m2
    rw [if_neg (by omega)]
    unfold swN
    rw [if_pos ⟨fj, fi, hj, hi⟩, Int.mul_comm (clP A j t)]
theorem clP_t {fr : Nat → Bool} {A : Nat → Nat → Int} {y v : Int} {t j : Nat} (hj : j ≠ t) : clP (m2 (swN fr t A y) t t v) t j = clP A t j := by
  rcases Nat.le_total j t with h | h
  · rw [clP_ge h, clP_ge h]
    unfold m2
    rw [if_neg (by omega)]
    unfold swN
    rw [if_neg (fun e => e.2.2.1 rfl)]
  · rw [clP_sym _ t j, clP_ge h, clP_sym A t j, clP_ge h]
    unfold m2
    rw [if_neg (by omega)]
    unfold swN
    rw [if_neg (fun e => e.2.2.2 rfl)]
theorem zP_c2 {P : Nat → Nat → Int} {p p' : Nat → Nat} {k : Nat} (h : ∀ a, a < k → p a = p' a) : zP P p p k = zP P p' p' k := zD_congr (fun a b ha hb => by rw [h a ha, h b hb])
theorem zE_c2 {P : Nat → Nat → Int} {p p' : Nat → Nat} {k x y : Nat} (h : ∀ a, a < k → p a = p' a) : zE P p p k x y = zE P p' p' k x y := by
  have e : ∀ z a, (if a < k then p a else z) = (if a < k then p' a else z) := fun z a => by
    by_cases e : a < k
    · rw [if_pos e, if_pos e, h a e]
    · rw [if_neg e, if_neg e]
  exact zD_congr (fun a b _ _ => by rw [e x a, e y b])
theorem zT_c2 {P : Nat → Nat → Int} {p p' : Nat → Nat} {k a y : Nat} (h : ∀ a, a < k → p a = p' a) : zT P p p k a y = zT P p' p' k a y := zD_congr (fun r b hr hb => by rw [h r hr, h b hb])
theorem zW.step {K : Nat → Nat → Int} (hK : zSy K) (hP : zPs K) {fr : Nat → Bool} {t k : Nat} {p : Nat → Nat} {A : Nat → Nat → Int} {y : Int} {sw : Nat → Bool} (h : zW K fr t k p A y sw) (ht : t < 10) : ∃ k' p', zW K fr (t+1) k' p' (swC fr t (A, y, sw)).1 (swC fr t (A, y, sw)).2.1 (swC fr t (A, y, sw)).2.2 := by
  have hp10 : ∀ a, a < k → p a < 10 := fun a ha => by have := (h.hp a ha).1; omega
  have hst : sw t = false := by
    cases e : sw t
    · rfl
    · obtain ⟨a, ha, hpa⟩ := h.sj t e
      have := (h.hp a ha).1; omega
  have hD : 0 < zP (zQ K) p p k := by rw [h.pv]; exact h.pos
  unfold swC
  by_cases hc : fr t = true ∧ A t t ≠ 0
  · rw [if_pos hc]
    obtain ⟨hft, h0⟩ := hc
    let p' : Nat → Nat := fun a => if a = k then t else p a
    have hc' : ∀ a, a < k → p a = p' a := fun a ha => by show _ = if a = k then t else p a; rw [if_neg (by omega)]
    have hk' : p' k = t := if_pos rfl
    have hnt : ∀ a, a < k → p a ≠ t := fun a ha => by have := (h.hp a ha).1; omega
    have inj : ∀ a a', a < k → a' < k → p a = p a' → a = a' := fun a a' ha ha' e => by
      rcases Nat.lt_trichotomy a a' with f | f | f
      · have := h.inc a a' f ha'; omega
      · exact f
      · have := h.inc a' a f ha; omega
    have hAt : A t t = zE (zQ K) p p k t t := by rw [← clP_d A t]; exact h.uu t t ht ht hft hft hst hst
    have hP1 : zP (zQ K) p' p' (k+1) = A t t := by rw [← zE_p, hk', ← zE_c2 hc', hAt]
    have hEs : ∀ x z, y * zE (zQ K) p' p' (k+1) x z = A t t * zE (zQ K) p p k x z - zE (zQ K) p p k x t * zE (zQ K) p p k t z := fun x z => by
      have := zE_step (zQ K) p' p' k x z (by rw [← zP_c2 hc']; omega)
      rw [hP1, hk', ← zE_c2 hc', ← zE_c2 hc', ← zE_c2 hc', ← zP_c2 hc', h.pv] at this
      exact this
    have hTs : ∀ a z, a < k → y * zT (zQ K) p' p' (k+1) a z = A t t * zT (zQ K) p p k a z - zT (zQ K) p p k a t * zE (zQ K) p p k t z := fun a z ha => by
      have := zT_step (zQ K) p' p' k z ha
      rw [hP1, hk', ← zT_c2 hc', ← zT_c2 hc', ← zE_c2 hc', ← zP_c2 hc', h.pv] at this
      exact this
    have hTk : ∀ z, zT (zQ K) p' p' (k+1) k z = zE (zQ K) p p k t z := fun z => by rw [zT_k, hk', ← zE_c2 hc']
    have hy : y ≠ 0 := by have := h.pos; omega
    have hmu : ∀ i, mu sw t true i = false → sw i = false ∧ i ≠ t := fun i hi => by
      unfold mu at hi
      by_cases e : i = t
      · rw [if_pos e] at hi; exact absurd hi (by decide)
      · rw [if_neg e] at hi; exact ⟨hi, e⟩
    refine ⟨k + 1, p', ?_, ?_, ?_, hP1, ?_, ?_, ?_, ?_, ?_, ?_⟩
    · intro a ha
      by_cases e : a = k
      · subst e
        rw [hk']
        refine ⟨by omega, hft, ?_⟩
        show mu sw t true t = true
        unfold mu; rw [if_pos rfl]
      · rw [← hc' a (by omega)]
        have := h.hp a (by omega)
        refine ⟨by omega, this.2.1, ?_⟩
        show mu sw t true (p a) = true
        unfold mu
        rw [if_neg (by omega)]; exact this.2.2
    · intro a b hab hb
      by_cases e : b = k
      · subst e
        rw [hk', ← hc' a hab]; exact (h.hp a hab).1
      · rw [← hc' a (by omega), ← hc' b (by omega)]; exact h.inc a b hab (by omega)
    · intro i hi
      have hi : mu sw t true i = true := hi
      unfold mu at hi
      by_cases e : i = t
      · exact ⟨k, by omega, by rw [hk', e]⟩
      · rw [if_neg e] at hi
        obtain ⟨a, ha, hpa⟩ := h.sj i hi
        exact ⟨a, by omega, by rw [← hc' a ha]; exact hpa⟩
    · show 0 < A t t
      have := z_pos hP hp10 ht hD
      rw [← hAt] at this
      omega
    · intro i j hi hj fi fj si sj
      obtain ⟨si, it⟩ := hmu i si
      obtain ⟨sj, jt⟩ := hmu j sj
      show clP (m2 (swN fr t A y) t t (-y)) i j = _
      rw [clP_n it jt fi fj, h.uu i j hi hj fi fj si sj, h.uu i t hi ht fi hft si hst, h.uu j t hj ht fj hft sj hst, zE_sym hK hp10 hj ht, Int.mul_comm (zE (zQ K) p p k i j), ← hEs]
      exact Int.mul_tdiv_cancel_left _ hy
    · intro a j ha hj fj sj
      obtain ⟨sj, jt⟩ := hmu j sj
      show clP (m2 (swN fr t A y) t t (-y)) (p' a) j = _
      by_cases e : a = k
      · subst e
        rw [hk', clP_t jt, h.uu t j ht hj hft fj hst sj, hTk]
      · have ha' : a < k := by omega
        have hh := h.hp a ha'
        rw [← hc' a ha', clP_n (by omega) jt hh.2.1 fj, h.su a j ha' hj fj sj, h.su a t ha' ht hft hst, h.uu j t hj ht fj hft sj hst, zE_sym hK hp10 hj ht, Int.mul_comm (zT (zQ K) p p k a j), ← hTs a j ha']
        exact Int.mul_tdiv_cancel_left _ hy
    · intro a b ha hb
      show m2 (swN fr t A y) t t (-y) (p' a) (p' b) = _
      by_cases e : a = k
      · subst e
        rw [hk']
        by_cases e2 : b = a
        · subst e2
          rw [hk', hTk, zE_et hnt, h.pv]
          unfold m2; rw [if_pos ⟨rfl, rfl⟩]
        · have hb' : b < a := by omega
          have hh := h.hp b hb'
          rw [← hc' b hb', hTk, zU hK hp10 inj ht hnt hb', Int.neg_neg, ← h.su b t hb' ht hft hst, clP_sym, clP_ge (by omega)]
          unfold m2; rw [if_neg (by omega)]
          unfold swN; rw [if_neg (fun e => e.2.2.1 rfl)]
      · have ha' : a < k := by omega
        have hb' : b < k := by omega
        have hh := h.hp a ha'
        have hh' := h.hp b hb'
        rw [← hc' a ha', ← hc' b hb']
        have e1 := hTs a (10 + p b) ha'
        rw [zU hK hp10 inj ht hnt hb'] at e1
        unfold m2; rw [if_neg (by omega)]
        unfold swN; rw [if_pos ⟨hh.2.1, hh'.2.1, by omega, by omega⟩, h.ss a b ha' hb, h.su a t ha' ht hft hst, h.su b t hb' ht hft hst]
        rw [show -zT (zQ K) p p k a (10 + p b) * A t t - zT (zQ K) p p k a t * zT (zQ K) p p k b t = y * (-zT (zQ K) p' p' (k+1) a (10 + p b)) by rw [Int.mul_neg, e1]; grind]
        exact Int.mul_tdiv_cancel_left _ hy
    · intro i j hi fi si hj fj
      obtain ⟨si, it⟩ := hmu i si
      have h1 := h.sk i j (by omega) fi si hj fj
      have h2 := h.sk i t (by omega) fi si ht hft
      have := hEs i j
      rw [h1, h2, Int.mul_zero, Int.zero_mul, Int.sub_zero] at this
      rcases Int.mul_eq_zero.mp this with e | e
      · exact absurd e hy
      · exact e
    · intro i j hf
      show m2 (swN fr t A y) t t (-y) i j = _
      have h1 : ¬ (i = t ∧ j = t) := by
        rintro ⟨rfl, rfl⟩
        rcases hf with e | e <;> rw [hft] at e <;> exact absurd e (by decide)
      have h2 : ¬ (fr i = true ∧ fr j = true ∧ i ≠ t ∧ j ≠ t) := by
        intro z
        rcases hf with e | e
        · rw [z.1] at e; exact absurd e (by decide)
        · rw [z.2.1] at e; exact absurd e (by decide)
      unfold m2; rw [if_neg h1]
      unfold swN; rw [if_neg h2]
      exact h.nf i j hf
  · rw [if_neg hc]
    refine ⟨k, p, fun a ha => ⟨by have := (h.hp a ha).1; omega, (h.hp a ha).2⟩, h.inc, h.sj, h.pv, h.pos, h.uu, h.su, h.ss, fun i j hi fi si hj fj => ?_, h.nf⟩
    by_cases e : i = t
    · subst e
      have hA : A i i = 0 := Classical.byContradiction (fun hne => hc ⟨fi, hne⟩)
      exact z_zero hK hP hp10 ht hj hD (by rw [← h.uu i i ht ht fi fi si si, clP_d, hA])
    · exact h.sk i j (by omega) fi si hj fj
theorem zW0 {K : Nat → Nat → Int} (hK : zSy K) (fr : Nat → Bool) : zW K fr 0 0 (fun _ => 0) K 1 (fun _ => false) := by
  refine ⟨fun a ha => absurd ha (by omega), fun a b _ hb => absurd hb (by omega), fun i hi => absurd (show false = true from hi) (by decide), rfl, by decide, fun i j hi hj _ _ _ _ => ?_, fun a j ha => absurd ha (by omega), fun a b ha => absurd ha (by omega), fun i j hi => absurd hi (by omega), fun _ _ _ => rfl⟩
  have e : zE (zQ K) (fun _ => 0) (fun _ => 0) 0 i j = K i j := by
    show zD 1 _ = _
    simp only [zD, zS, zG_0]
    rw [if_neg (by omega), if_neg (by omega), zQ_lt hj]; omega
  rw [e]
  rcases Nat.le_total j i with h | h
  · rw [clP_ge h]
  · rw [clP_sym, clP_ge h]; exact hK j i hj hi
end ZW
