section ZB
/-- rows change places -/
theorem zD_sw (n : Nat) (A : Nat → Nat → Int) {p q : Nat} (hpq : p ≠ q) (hp : p < n) (hq : q < n) : zD n (zw A p q) = -zD n A := by
  have key : ∀ x y : Nat → Int, zD n (fun a b => if a = p then x b else if a = q then y b else A a b) + zD n (fun a b => if a = p then y b else if a = q then x b else A a b) = 0 := by
    intro x y
    have h0 := zD_rr n (fun a b => if a = p then 1 * x b + 1 * y b else if a = q then x b + y b else A a b) hpq hp hq (fun b _ => by simp only [if_pos, if_neg (Ne.symm hpq)]; omega)
    rw [zD_rowL n hp (fun a b => if a = q then x b + y b else A a b) x y 1 1] at h0
    have e1 : ∀ z : Nat → Int, zD n (fun a b => if a = p then z b else if a = q then x b + y b else A a b) = zD n (fun a b => if a = p then z b else if a = q then x b else A a b) + zD n (fun a b => if a = p then z b else if a = q then y b else A a b) := by
      intro z
      have := zD_rowL n hq (fun a b => if a = p then z b else A a b) x y 1 1
      have f : ∀ w : Nat → Int, (fun a b => if a = p then z b else if a = q then w b else A a b) = (fun a b => if a = q then w b else if a = p then z b else A a b) := by
        intro w; funext a b
        by_cases e : a = p
        · rw [if_pos e, if_neg (by omega), if_pos e]
        · rw [if_neg e, if_neg e]
      rw [f x, f y, f (fun b => x b + y b)]
      have g : (fun a b => if a = q then x b + y b else if a = p then z b else A a b) = (fun a b => if a = q then 1 * x b + 1 * y b else if a = p then z b else A a b) := by
        funext a b; simp only [Int.one_mul]
      rw [g, this]; omega
    rw [e1 x, e1 y] at h0
    have h1 := zD_rr n (fun a b => if a = p then x b else if a = q then x b else A a b) hpq hp hq (fun b _ => by simp only [if_pos, if_neg (Ne.symm hpq)])
    have h2 := zD_rr n (fun a b => if a = p then y b else if a = q then y b else A a b) hpq hp hq (fun b _ => by simp only [if_pos, if_neg (Ne.symm hpq)])
    omega
  have h := key (A p) (A q)
  have e1 : zD n (fun a b => if a = p then A p b else if a = q then A q b else A a b) = zD n A := zD_congr (fun a b _ _ => by
    by_cases e : a = p
    · rw [if_pos e, e]
    · rw [if_neg e]
      by_cases e' : a = q
      · rw [if_pos e', e']
      · rw [if_neg e'])
  have e2 : zD n (fun a b => if a = p then A q b else if a = q then A p b else A a b) = zD n (zw A p q) := rfl
  omega
/-- the last row is zero but for its last place -/
theorem zD_b1 (k : Nat) (A : Nat → Nat → Int) (h : ∀ b, b < k → A k b = 0) : zD (k+1) A = A k k * zD k A := by
  induction k generalizing A with
  | zero => simp only [zD, zS, zG_0]; omega
  | succ k ih =>
    rw [zD, zS, h 0 (by omega)]
    have e : zS (k+1) (fun i => zG i * A i 0 * zD (k+1) (fun a b => A (zk i a) (b+1))) = A (k+1) (k+1) * zD (k+1) A := by
      rw [zD, ← zS_mul]
      refine zS_congr (fun i hi => ?_)
      have hk : zk i k = k + 1 := by unfold zk; rw [if_neg (by omega)]
      rw [ih (fun a b => A (zk i a) (b+1)) (fun b hb => by show A (zk i k) (b+1) = 0; rw [hk]; exact h (b+1) (by omega))]
      simp only [hk]
      generalize zD k _ = D
      grind
    rw [e]
    generalize zD (k+1) _ = D
    generalize zD (k+1) _ = D'
    grind
/-- the last two rows are zero but for their last two places -/
theorem zD_b2 (k : Nat) (A : Nat → Nat → Int) (h : ∀ b, b < k → A k b = 0) (h' : ∀ b, b < k → A (k+1) b = 0) : zD (k+2) A = zD k A * (A k k * A (k+1) (k+1) - A k (k+1) * A (k+1) k) := by
  induction k generalizing A with
  | zero =>
    simp only [zD, zS, zG_0, zG_s, zk_0, zk_s0]
    grind
  | succ k ih =>
    rw [zD, zS, zS, h 0 (by omega), h' 0 (by omega)]
    have e : zS (k+1) (fun i => zG i * A i 0 * zD (k+2) (fun a b => A (zk i a) (b+1))) = (A (k+1) (k+1) * A (k+2) (k+2) - A (k+1) (k+2) * A (k+2) (k+1)) * zD (k+1) A := by
      rw [zD, ← zS_mul]
      refine zS_congr (fun i hi => ?_)
      have hk : zk i k = k + 1 := by unfold zk; rw [if_neg (by omega)]
      have hk' : zk i (k+1) = k + 2 := by unfold zk; rw [if_neg (by omega)]
      rw [ih (fun a b => A (zk i a) (b+1)) (fun b hb => by show A (zk i k) (b+1) = 0; rw [hk]; exact h (b+1) (by omega)) (fun b hb => by show A (zk i (k+1)) (b+1) = 0; rw [hk']; exact h' (b+1) (by omega))]
      simp only [hk, hk']
      generalize zD k _ = D
      grind
    rw [e]
    generalize zD (k+1) _ = D
    generalize zD (k+2) _ = D'
    generalize zD (k+2) _ = D''
    grind
/-- a linear function of a vector -/
theorem zF_lin (F : (Nat → Int) → Int) (N : Nat) (hc : ∀ x y : Nat → Int, (∀ a, a < N → x a = y a) → F x = F y) (hl : ∀ (x y : Nat → Int) (s t : Int), F (fun a => s * x a + t * y a) = s * F x + t * F y) (x : Nat → Int) : F x = zS N (fun a => F (fun a' => if a' = a then 1 else 0) * x a) := by
  have h : ∀ t, t ≤ N → F (fun a => if a < t then x a else 0) = zS t (fun a => F (fun a' => if a' = a then 1 else 0) * x a) := by
    intro t
    induction t with
    | zero =>
      intro _
      have := hl x x 0 0
      simp only [zS]
      rw [hc (fun a => if a < 0 then x a else 0) (fun a => 0 * x a + 0 * x a) (fun a _ => by rw [if_neg (by omega)]; omega), this]
      omega
    | succ t ih =>
      intro ht
      have := hl (fun a => if a < t then x a else 0) (fun a' => if a' = t then 1 else 0) 1 (x t)
      rw [zS, ← ih (by omega), hc (fun a => if a < t + 1 then x a else 0) (fun a => 1 * (if a < t then x a else 0) + x t * (if a = t then 1 else 0)) ?_, this]
      · rw [Int.one_mul, Int.mul_comm (x t)]
      · intro a _
        by_cases e : a = t
        · rw [if_pos (by omega), if_neg (by omega), if_pos e, e]; omega
        · by_cases e' : a < t
          · rw [if_pos (by omega), if_pos e', if_neg e]; omega
          · rw [if_neg (by omega), if_neg e', if_neg e]; omega
  rw [← h N (Nat.le_refl _)]
  exact hc _ _ (fun a ha => by rw [if_pos ha])
/-- along the last column -/
theorem zD_last (n : Nat) (A : Nat → Nat → Int) : ∃ C : Nat → Int, C n = zD n A ∧ ∀ x : Nat → Int, zD (n+1) (fun a b => if b < n then A a b else x a) = zS (n+1) (fun a => C a * x a) := by
  have hF : ∀ x : Nat → Int, zD (n+1) (fun a b => if b < n then A a b else x a) = zD (n+1) (fun a b => if b = n then x a else A a b) := fun x => zD_congr (fun a b _ hb => by
    by_cases e : b = n
    · rw [if_pos e, if_neg (by omega)]
    · rw [if_neg e, if_pos (by omega)])
  refine ⟨fun a => zD (n+1) (fun a' b => if b = n then (if a' = a then 1 else 0) else A a' b), ?_, fun x => ?_⟩
  · show zD (n+1) (fun a' b => if b = n then (if a' = n then 1 else 0) else A a' b) = _
    rw [← zD_t (n+1) (fun a' b => if b = n then (if a' = n then 1 else 0) else A a' b)]
    rw [zD_b1 n _ (fun b hb => by simp only [if_pos, if_neg (show ¬ b = n by omega)])]
    simp only [if_pos, Int.one_mul]
    rw [← zD_t n A]
    exact zD_congr (fun a b ha _ => by rw [if_neg (by omega)])
  · rw [hF]
    exact zF_lin (fun x => zD (n+1) (fun a b => if b = n then x a else A a b)) (n+1) (fun x y h => zD_congr (fun a b ha _ => by rw [h a ha])) (fun x y s t => zD_colL (n+1) (by omega) A x y s t) x
/-- a row gets multiples of other rows -/
theorem zD_addR (n : Nat) (B : Nat → Nat → Int) {r : Nat} (hr : r < n) (D : Int) (C : Nat → Int) : ∀ k, k ≤ r → zD n (fun a b => if a = r then zS k (fun l => C l * B l b) + D * B r b else B a b) = D * zD n B
  | 0, _ => by
    have := zD_rowL n hr B (B r) (B r) D 0
    have e : zD n (fun a b => if a = r then B r b else B a b) = zD n B := zD_congr (fun a b _ _ => by
      by_cases e : a = r
      · rw [if_pos e, e]
      · rw [if_neg e])
    rw [e] at this
    rw [← show D * zD n B + 0 * zD n B = D * zD n B by rw [Int.zero_mul, Int.add_zero], ← this]
    exact zD_congr (fun a b _ _ => by simp only [zS]; rw [Int.zero_mul, Int.add_zero, Int.zero_add])
  | k + 1, hk => by
    have ih := zD_addR n B hr D C k (by omega)
    have h := zD_rowL n hr B (fun b => zS k (fun l => C l * B l b) + D * B r b) (B k) 1 (C k)
    have e0 : zD n (fun a b => if a = r then B k b else B a b) = 0 := zD_rr n _ (p := r) (q := k) (by omega) hr (by omega) (fun b _ => by rw [if_pos rfl, if_neg (by omega)])
    rw [e0, ih] at h
    rw [show D * zD n B = 1 * (D * zD n B) + C k * 0 by omega, ← h]
    refine zD_congr (fun a b _ _ => ?_)
    split
    · simp only [zS]; omega
    · rfl
/-- the numbers of the elimination: its pivots' rows and columns are p and q -/
def zP (P : Nat → Nat → Int) (p q : Nat → Nat) (k : Nat) : Int := zD k (fun a b => P (p a) (q b))
def zE (P : Nat → Nat → Int) (p q : Nat → Nat) (k x y : Nat) : Int := zD (k+1) (fun a b => P (if a < k then p a else x) (if b < k then q b else y))
def zT (P : Nat → Nat → Int) (p q : Nat → Nat) (k a y : Nat) : Int := zD k (fun r b => P (p r) (if b = a then y else q b))
theorem zE_p (P : Nat → Nat → Int) (p q : Nat → Nat) (k : Nat) : zE P p q k (p k) (q k) = zP P p q (k+1) := zD_congr (fun a b ha hb => by
  have h1 : (if a < k then p a else p k) = p a := by
    split
    · rfl
    · rw [show a = k by omega]
  have h2 : (if b < k then q b else q k) = q b := by
    split
    · rfl
    · rw [show b = k by omega]
  rw [h1, h2])
theorem zT_k (P : Nat → Nat → Int) (p q : Nat → Nat) (k y : Nat) : zT P p q (k+1) k y = zE P p q k (p k) y := zD_congr (fun a b ha hb => by
  have h1 : (if a < k then p a else p k) = p a := by
    split
    · rfl
    · rw [show a = k by omega]
  have h2 : (if b = k then y else q b) = (if b < k then q b else y) := by
    by_cases e : b = k
    · rw [if_pos e, if_neg (by omega)]
    · rw [if_neg e, if_pos (by omega)]
  rw [h1, h2])
theorem zT_d (P : Nat → Nat → Int) (p q : Nat → Nat) (k : Nat) {a : Nat} : zT P p q k a (q a) = zP P p q k := zD_congr (fun r b _ _ => by
  by_cases e : b = a
  · rw [if_pos e, e]
  · rw [if_neg e])
theorem zT_0 (P : Nat → Nat → Int) (p q : Nat → Nat) (k : Nat) {a b : Nat} (ha : a < k) (hb : b < k) (hab : a ≠ b) : zT P p q k a (q b) = 0 := zD_cc k _ hab ha hb (fun r _ => by simp only [if_pos, if_neg (Ne.symm hab)])
theorem zE_0 (P : Nat → Nat → Int) (p q : Nat → Nat) (k x : Nat) {b : Nat} (hb : b < k) : zE P p q k x (q b) = 0 := zD_cc (k+1) _ (p := b) (q := k) (by omega) (by omega) (by omega) (fun r _ => by simp only [if_pos hb, if_neg (show ¬ k < k by omega)])
theorem zE_r0 (P : Nat → Nat → Int) (p q : Nat → Nat) (k y : Nat) {a : Nat} (ha : a < k) : zE P p q k (p a) y = 0 := zD_rr (k+1) _ (p := a) (q := k) (by omega) (by omega) (by omega) (fun r _ => by simp only [if_pos ha, if_neg (show ¬ k < k by omega)])
theorem zE_row (P : Nat → Nat → Int) (p q : Nat → Nat) (k x : Nat) : ∃ C : Nat → Int, ∀ y, zE P p q k x y = zS k (fun l => C l * P (p l) y) + zP P p q k * P x y := by
  obtain ⟨C, h1, h2⟩ := zD_last k (fun a b => P (if a < k then p a else x) (q b))
  refine ⟨C, fun y => ?_⟩
  have e : zE P p q k x y = zD (k+1) (fun a b => if b < k then P (if a < k then p a else x) (q b) else P (if a < k then p a else x) y) := zD_congr (fun a b _ _ => by
    by_cases e : b < k
    · rw [if_pos e, if_pos e]
    · rw [if_neg e, if_neg e])
  rw [e, h2 (fun a => P (if a < k then p a else x) y), zS, h1, if_neg (by omega)]
  congr 1
  · exact zS_congr (fun l hl => by rw [if_pos hl])
  · congr 1
    exact zD_congr (fun a b ha _ => by rw [if_pos ha])
/-- the elimination's step, rows below -/
theorem zE_step (P : Nat → Nat → Int) (p q : Nat → Nat) (k x y : Nat) (hd : zP P p q k ≠ 0) : zP P p q k * zE P p q (k+1) x y = zP P p q (k+1) * zE P p q k x y - zE P p q k x (q k) * zE P p q k (p k) y := by
  obtain ⟨C, hC⟩ := zE_row P p q k x
  obtain ⟨C', hC'⟩ := zE_row P p q k (p k)
  let B : Nat → Nat → Int := fun a b => P (if a < k + 1 then p a else x) (if b < k + 1 then q b else y)
  let B1 : Nat → Nat → Int := fun a b => if a = k + 1 then zE P p q k x (if b < k + 1 then q b else y) else B a b
  let B2 : Nat → Nat → Int := fun a b => if a = k then zE P p q k (p k) (if b < k + 1 then q b else y) else B1 a b
  have h1 : zD (k+2) B1 = zP P p q k * zE P p q (k+1) x y := by
    show _ = _ * zD (k+2) B
    rw [← zD_addR (k+2) B (r := k+1) (by omega) (zP P p q k) C k (by omega)]
    refine zD_congr (fun a b _ _ => ?_)
    show (if a = k + 1 then _ else _) = _
    split
    · rw [hC]
      congr 1
      · refine zS_congr (fun l hl => ?_)
        show _ = C l * P (if l < k + 1 then p l else x) _
        rw [if_pos (show l < k + 1 by omega)]
      · show _ = _ * P (if k + 1 < k + 1 then p (k+1) else x) _
        rw [if_neg (show ¬ k + 1 < k + 1 by omega)]
    · rfl
  have h2 : zD (k+2) B2 = zP P p q k * zD (k+2) B1 := by
    rw [← zD_addR (k+2) B1 (r := k) (by omega) (zP P p q k) C' k (by omega)]
    refine zD_congr (fun a b _ _ => ?_)
    show (if a = k then _ else _) = _
    split
    · rw [hC']
      have e : ∀ l, l < k + 1 → B1 l b = P (p l) (if b < k + 1 then q b else y) := fun l hl => by
        show (if l = k + 1 then _ else P (if l < k + 1 then p l else x) (if b < k + 1 then q b else y)) = _
        rw [if_neg (by omega), if_pos hl]
      congr 1
      · exact zS_congr (fun l hl => by rw [e l (by omega)])
      · rw [e k (by omega)]
    · rfl
  have r1 : ∀ b, B2 k b = zE P p q k (p k) (if b < k + 1 then q b else y) := fun b => if_pos rfl
  have r2 : ∀ b, B2 (k+1) b = zE P p q k x (if b < k + 1 then q b else y) := fun b => by
    show (if k + 1 = k then _ else if k + 1 = k + 1 then _ else _) = _
    rw [if_neg (by omega), if_pos rfl]
  have h3 := zD_b2 k B2 (fun b hb => by rw [r1, if_pos (by omega)]; exact zE_0 P p q k (p k) hb) (fun b hb => by rw [r2, if_pos (by omega)]; exact zE_0 P p q k x hb)
  have h4 : zD k B2 = zP P p q k := zD_congr (fun a b ha hb => by
    show (if a = k then _ else if a = k + 1 then _ else P (if a < k + 1 then p a else x) (if b < k + 1 then q b else y)) = _
    rw [if_neg (by omega), if_neg (by omega), if_pos (by omega), if_pos (by omega)])
  rw [r1, r1, r2, r2, if_pos (by omega), if_neg (by omega), h4, h2, h1, zE_p] at h3
  have h5 := Int.eq_of_mul_eq_mul_left hd h3
  rw [h5, Int.mul_comm (zE P p q k (p k) y)]
/-- the last row is zero but for two places -/
theorem zD_f (k : Nat) (A : Nat → Nat → Int) {a : Nat} (ha : a < k) (h : ∀ b, b < k → b ≠ a → A k b = 0) : zD (k+1) A = A k k * zD k A - A k a * zD k (fun r b => if b = a then A r k else A r b) := by
  have hl := zD_rowL (k+1) (r := k) (by omega) A (fun b => if b = k then 1 else 0) (fun b => if b = a then 1 else 0) (A k k) (A k a)
  have e : zD (k+1) A = zD (k+1) (fun r b => if r = k then A k k * (if b = k then 1 else 0) + A k a * (if b = a then 1 else 0) else A r b) := zD_congr (fun r b _ hb => by
    by_cases e : r = k
    · rw [if_pos e, e]
      by_cases e1 : b = k
      · rw [if_pos e1, if_neg (by omega), e1]; omega
      · rw [if_neg e1]
        by_cases e2 : b = a
        · rw [if_pos e2, e2]; omega
        · rw [if_neg e2, h b (by omega) e2]; omega
    · rw [if_neg e])
  rw [e, hl]
  have e1 : zD (k+1) (fun r b => if r = k then (if b = k then 1 else 0) else A r b) = zD k A := by
    rw [zD_b1 k _ (fun b hb => by simp only [if_pos, if_neg (show ¬ b = k by omega)])]
    simp only [if_pos, Int.one_mul]
    exact zD_congr (fun r b hr _ => by rw [if_neg (by omega)])
  have e2 : zD (k+1) (fun r b => if r = k then (if b = a then 1 else 0) else A r b) = -zD k (fun r b => if b = a then A r k else A r b) := by
    have h1 : zD (k+1) (fun r b => if b = k then (if r = a then (1 : Int) else 0) else A b r) = zD (k+1) (fun r b => if r = k then (if b = a then 1 else 0) else A r b) := zD_t (k+1) (fun r b => if r = k then (if b = a then 1 else 0) else A r b)
    have h2 := zD_sw (k+1) (fun r b => if b = k then (if r = a then (1 : Int) else 0) else A b r) (p := a) (q := k) (by omega) (by omega) (by omega)
    have e3 : zD (k+1) (zw (fun r b => if b = k then (if r = a then (1 : Int) else 0) else A b r) a k) = zD k (fun r b => if b = a then A r k else A r b) := by
      rw [← zD_t (k+1), zD_b1 k]
      · have e4 : zw (fun r b => if b = k then (if r = a then (1 : Int) else 0) else A b r) a k k k = 1 := by
          unfold zw
          rw [if_neg (show ¬ k = a by omega), if_pos rfl]; dsimp only; rw [if_pos rfl, if_pos rfl]
        rw [e4, Int.one_mul]
        refine zD_congr (fun r b hr hb => ?_)
        unfold zw
        by_cases e5 : b = a
        · rw [if_pos e5, if_pos e5]; dsimp only; rw [if_neg (show ¬ r = k by omega)]
        · rw [if_neg e5, if_neg (show ¬ b = k by omega), if_neg e5]; dsimp only; rw [if_neg (show ¬ r = k by omega)]
      · intro b hb
        unfold zw
        by_cases e5 : b = a
        · rw [if_pos e5]; dsimp only; rw [if_pos rfl, if_neg (show ¬ k = a by omega)]
        · rw [if_neg e5, if_neg (show ¬ b = k by omega)]; dsimp only; rw [if_pos rfl, if_neg e5]
    omega
  rw [e1, e2, Int.mul_neg]; omega
/-- the elimination's step, rows above -/
theorem zT_step (P : Nat → Nat → Int) (p q : Nat → Nat) (k y : Nat) {a : Nat} (ha : a < k) : zP P p q k * zT P p q (k+1) a y = zP P p q (k+1) * zT P p q k a y - zT P p q k a (q k) * zE P p q k (p k) y := by
  obtain ⟨C, hC⟩ := zE_row P p q k (p k)
  let B : Nat → Nat → Int := fun r b => P (p r) (if b = a then y else q b)
  let B1 : Nat → Nat → Int := fun r b => if r = k then zE P p q k (p k) (if b = a then y else q b) else B r b
  have h1 : zD (k+1) B1 = zP P p q k * zT P p q (k+1) a y := by
    show _ = _ * zD (k+1) B
    rw [← zD_addR (k+1) B (r := k) (by omega) (zP P p q k) C k (by omega)]
    refine zD_congr (fun r b _ _ => ?_)
    show (if r = k then _ else _) = _
    split
    · rw [hC]
    · rfl
  have r1 : ∀ b, B1 k b = zE P p q k (p k) (if b = a then y else q b) := fun b => if_pos rfl
  have h2 := zD_f k B1 ha (fun b hb hne => by rw [r1, if_neg hne]; exact zE_0 P p q k (p k) hb)
  have h3 : zD k B1 = zT P p q k a y := zD_congr (fun r b hr _ => by
    show (if r = k then _ else _) = _
    rw [if_neg (by omega)])
  have h4 : zD k (fun r b => if b = a then B1 r k else B1 r b) = zT P p q k a (q k) := zD_congr (fun r b hr hb => by
    show (if b = a then (if r = k then _ else P (p r) (if k = a then y else q k)) else (if r = k then _ else P (p r) (if b = a then y else q b))) = P (p r) (if b = a then q k else q b)
    rw [if_neg (show ¬ r = k by omega), if_neg (show ¬ k = a by omega)]
    by_cases e : b = a
    · rw [if_pos e, if_pos e]
    · rw [if_neg e, if_neg (show ¬ r = k by omega), if_neg e, if_neg e])
  rw [r1, r1, if_neg (by omega), if_pos rfl, h3, h4, h1, zE_p] at h2
  rw [h2, Int.mul_comm (zE P p q k (p k) y)]
/-- bounds -/
theorem zS_zk (f : Nat → Int) : ∀ (n i : Nat), i < n + 1 → zS (n+1) f = f i + zS n (fun a => f (zk i a))
  | 0, i, h => by rw [show i = 0 by omega]; simp only [zS]; omega
  | n + 1, i, h => by
    by_cases e : i = n + 1
    · rw [zS, e, zS_congr (f := fun a => f (zk (n+1) a)) (g := f) (fun a ha => by unfold zk; rw [if_pos ha])]; omega
    · rw [zS, zS_zk f n i (by omega), zS]
      simp only [show zk i n = n + 1 by unfold zk; rw [if_neg (by omega)]]; omega
def zM : Nat → (Nat → Int) → Int
  | 0, _ => 1
  | n+1, f => f 0 * zM n (fun b => f (b+1))
theorem zM_0 (n : Nat) (f : Nat → Int) (h : ∀ b, b < n → 0 ≤ f b) : 0 ≤ zM n f := by
  induction n generalizing f with
  | zero => exact (by decide : (0 : Int) ≤ 1)
  | succ n ih => exact Int.mul_nonneg (h 0 (by omega)) (ih _ (fun b hb => h (b+1) (by omega)))
theorem zS_abs (n : Nat) (f : Nat → Int) : ((zS n f).natAbs : Int) ≤ zS n (fun i => ((f i).natAbs : Int)) := by
  induction n with
  | zero => exact Int.le_refl 0
  | succ n ih =>
    simp only [zS]
    have := Int.natAbs_add_le (zS n f) (f n)
    omega
theorem zG_abs (i : Nat) : (zG i).natAbs = 1 := by
  rcases zG_or i with h | h <;> rw [h] <;> rfl
theorem zD_bd (n : Nat) (A : Nat → Nat → Int) (K : Nat → Int) (h : ∀ b, b < n → zS n (fun a => ((A a b).natAbs : Int)) ≤ K b) : ((zD n A).natAbs : Int) ≤ zM n K := by
  induction n generalizing A K with
  | zero => exact (by decide : (((1 : Int).natAbs : Nat) : Int) ≤ 1)
  | succ n ih =>
    have hK : ∀ b, b < n + 1 → 0 ≤ K b := fun b hb => Int.le_trans (zS_nonneg (fun a _ => by omega)) (h b hb)
    rw [zD]
    refine Int.le_trans (zS_abs _ _) ?_
    have h1 : ∀ i, i < n + 1 → (((zG i * A i 0 * zD n (fun a b => A (zk i a) (b+1))).natAbs : Nat) : Int) ≤ zM n (fun b => K (b+1)) * ((A i 0).natAbs : Int) := by
      intro i hi
      rw [Int.natAbs_mul, Int.natAbs_mul, zG_abs, Nat.one_mul, Int.natCast_mul, Int.mul_comm]
      refine Int.mul_le_mul_of_nonneg_right (ih _ _ (fun b hb => ?_)) (by omega)
      have := h (b+1) (by omega)
      rw [zS_zk _ n i hi] at this
      have h0 : (0 : Int) ≤ ((A i (b+1)).natAbs : Int) := by omega
      omega
    refine Int.le_trans (zS_le h1) ?_
    rw [zS_mul, zM, Int.mul_comm]
    exact Int.mul_le_mul_of_nonneg_right (h 0 (by omega)) (zM_0 _ _ (fun b hb => hK (b+1) (by omega)))
end ZB
