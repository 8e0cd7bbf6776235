section ZD
/-- sums -/
def zS : Nat → (Nat → Int) → Int
  | 0, _ => 0
  | n+1, f => zS n f + f n
theorem zS_congr {n : Nat} {f g : Nat → Int} (h : ∀ i, i < n → f i = g i) : zS n f = zS n g := by
  induction n with
  | zero => rfl
  | succ n ih => simp only [zS]; rw [ih (fun i hi => h i (Nat.lt_succ_of_lt hi)), h n (Nat.lt_succ_self n)]
theorem zS_add (n : Nat) (f g : Nat → Int) : zS n (fun i => f i + g i) = zS n f + zS n g := by
  induction n with
  | zero => rfl
  | succ n ih => simp only [zS]; rw [ih]; omega
theorem zS_mul (n : Nat) (c : Int) (f : Nat → Int) : zS n (fun i => c * f i) = c * zS n f := by
  induction n with
  | zero => simp only [zS, Int.mul_zero]
  | succ n ih => simp only [zS]; rw [ih, Int.mul_add]
theorem zS_lin (n : Nat) (s t : Int) (f g : Nat → Int) : zS n (fun i => s * f i + t * g i) = s * zS n f + t * zS n g := by
  rw [zS_add n (fun i => s * f i) (fun i => t * g i), zS_mul, zS_mul]
theorem zS_zero {n : Nat} {f : Nat → Int} (h : ∀ i, i < n → f i = 0) : zS n f = 0 := by
  induction n with
  | zero => rfl
  | succ n ih => simp only [zS]; rw [ih (fun i hi => h i (Nat.lt_succ_of_lt hi)), h n (Nat.lt_succ_self n)]; rfl
theorem zS_swap (n m : Nat) (f : Nat → Nat → Int) : zS n (fun i => zS m (f i)) = zS m (fun j => zS n (fun i => f i j)) := by
  induction n with
  | zero => simp only [zS]; exact (zS_zero (fun _ _ => rfl)).symm
  | succ n ih => simp only [zS]; rw [ih, zS_add]
theorem zS_head (n : Nat) (f : Nat → Int) : zS (n+1) f = f 0 + zS n (fun i => f (i+1)) := by
  induction n with
  | zero => simp only [zS]; omega
  | succ n ih => rw [zS, ih]; simp only [zS]; omega
theorem zS_one {n p : Nat} {f : Nat → Int} (hp : p < n) (h : ∀ i, i < n → i ≠ p → f i = 0) : zS n f = f p := by
  induction n with
  | zero => omega
  | succ n ih =>
    simp only [zS]
    by_cases e : p = n
    · rw [zS_zero (fun i hi => h i (by omega) (by omega)), e]; omega
    · rw [ih (by omega) (fun i hi hne => h i (by omega) hne), h n (by omega) (by omega)]; omega
theorem zS_two {n p : Nat} {f : Nat → Int} (hp : p + 1 < n) (h : ∀ i, i < n → i ≠ p → i ≠ p + 1 → f i = 0) : zS n f = f p + f (p+1) := by
  induction n with
  | zero => omega
  | succ n ih =>
    simp only [zS]
    by_cases e : p + 1 = n
    · rw [zS_one (p := p) (by omega) (fun i hi hne => h i (by omega) hne (by omega)), e]
    · rw [ih (by omega) (fun i hi h1 h2 => h i (by omega) h1 h2), h n (by omega) (by omega) (by omega)]; omega
theorem zS_nonneg {n : Nat} {f : Nat → Int} (h : ∀ i, i < n → 0 ≤ f i) : 0 ≤ zS n f := by
  induction n with
  | zero => exact Int.le_refl 0
  | succ n ih => simp only [zS]; have := ih (fun i hi => h i (by omega)); have := h n (by omega); omega
theorem zS_le {n : Nat} {f g : Nat → Int} (h : ∀ i, i < n → f i ≤ g i) : zS n f ≤ zS n g := by
  induction n with
  | zero => exact Int.le_refl 0
  | succ n ih => simp only [zS]; have := ih (fun i hi => h i (by omega)); have := h n (by omega); omega
theorem zS_sq0 {n : Nat} {f : Nat → Int} (h : ∀ i, i < n → 0 ≤ f i) (h0 : zS n f = 0) : ∀ i, i < n → f i = 0 := by
  induction n with
  | zero => intro i hi; omega
  | succ n ih =>
    simp only [zS] at h0
    have h1 := zS_nonneg (n := n) (f := f) (fun i hi => h i (by omega))
    have h2 := h n (by omega)
    intro i hi
    by_cases e : i = n
    · rw [e]; omega
    · exact ih (fun i hi => h i (by omega)) (by omega) i (by omega)

def zG (i : Nat) : Int := if i % 2 = 0 then 1 else -1
theorem zG_s (i : Nat) : zG (i+1) = -zG i := by
  unfold zG
  rcases Nat.mod_two_eq_zero_or_one i with h | h
  · rw [if_neg (by omega), if_pos h]
  · rw [if_pos (by omega), if_neg (by omega)]; rfl
theorem zG_0 : zG 0 = 1 := rfl
theorem zG_q (i : Nat) : zG i * zG i = 1 := by
  unfold zG; split <;> rfl
theorem zG_or (i : Nat) : zG i = 1 ∨ zG i = -1 := by
  unfold zG; split
  · exact Or.inl rfl
  · exact Or.inr rfl
def zk (i l : Nat) : Nat := if l < i then l else l + 1
theorem zk_lt {i l n : Nat} (hl : l < n) : zk i l < n + 1 := by unfold zk; split <;> omega
theorem zk_ne (i l : Nat) : zk i l ≠ i := by unfold zk; split <;> omega
theorem zk_0 (l : Nat) : zk 0 l = l + 1 := by unfold zk; rw [if_neg (by omega)]
theorem zk_s0 (i : Nat) : zk (i+1) 0 = 0 := by unfold zk; rw [if_pos (by omega)]
theorem zk_ss (i l : Nat) : zk (i+1) (l+1) = zk i l + 1 := by unfold zk; split <;> split <;> omega
/-- determinants: expanded along the first column -/
def zD : Nat → (Nat → Nat → Int) → Int
  | 0, _ => 1
  | n+1, A => zS (n+1) (fun i => zG i * A i 0 * zD n (fun a b => A (zk i a) (b+1)))
theorem zD_congr {n : Nat} {A B : Nat → Nat → Int} (h : ∀ a b, a < n → b < n → A a b = B a b) : zD n A = zD n B := by
  induction n generalizing A B with
  | zero => rfl
  | succ n ih =>
    simp only [zD]
    refine zS_congr (fun i hi => ?_)
    rw [h i 0 hi (by omega), ih (A := fun a b => A (zk i a) (b+1)) (B := fun a b => B (zk i a) (b+1)) (fun a b ha hb => h _ _ (zk_lt ha) (by omega))]
/-- the same along the first row -/
theorem zD_row : ∀ (n : Nat) (A : Nat → Nat → Int), zD (n+1) A = zS (n+1) (fun j => zG j * A 0 j * zD n (fun a b => A (a+1) (zk j b)))
  | 0, A => by simp only [zD, zS]
  | n+1, A => by
    rw [zD, zS_head (n+1), zS_head (n+1)]
    have e1 : zG 0 * A 0 0 * zD (n+1) (fun a b => A (zk 0 a) (b+1)) = zG 0 * A 0 0 * zD (n+1) (fun a b => A (a+1) (zk 0 b)) := by
      simp only [zk_0]
    rw [e1]
    congr 1
    have e2 : ∀ i, i < n + 1 → zG (i+1) * A (i+1) 0 * zD (n+1) (fun a b => A (zk (i+1) a) (b+1)) = zS (n+1) (fun j => zG (i+1) * A (i+1) 0 * (zG j * A 0 (j+1) * zD n (fun a b => A (zk i a + 1) (zk j b + 1)))) := fun i _ => by
      rw [zD_row n, zS_mul]
      congr 1
      refine zS_congr (fun j _ => ?_)
      simp only [zk_s0, zk_ss]
    rw [zS_congr e2, zS_swap]
    refine zS_congr (fun j _ => ?_)
    rw [zD, ← zS_mul]
    refine zS_congr (fun i _ => ?_)
    simp only [zk_s0, zk_ss, zG_s]
    generalize zD n _ = D
    grind
theorem zD_t (n : Nat) (A : Nat → Nat → Int) : zD n (fun a b => A b a) = zD n A := by
  induction n generalizing A with
  | zero => rfl
  | succ n ih =>
    rw [zD_row n A, zD]
    refine zS_congr (fun i _ => ?_)
    rw [ih (fun a b => A (a+1) (zk i b))]
/-- linear in a column -/
theorem zD_colL (n : Nat) {c : Nat} (hc : c < n) (A : Nat → Nat → Int) (x y : Nat → Int) (s t : Int) :
    zD n (fun a b => if b = c then s * x a + t * y a else A a b) = s * zD n (fun a b => if b = c then x a else A a b) + t * zD n (fun a b => if b = c then y a else A a b) := by
  induction n generalizing c A x y with
  | zero => omega
  | succ n ih =>
    simp only [zD]
    rw [← zS_lin]
    refine zS_congr (fun i _ => ?_)
    cases c with
    | zero =>
      simp only [if_pos, Nat.add_one_ne_zero, if_false]
      generalize zD n _ = D
      grind
    | succ c =>
      simp only [Nat.add_right_cancel_iff, show ¬ (0 = c + 1) by omega, if_false]
      rw [ih (by omega) (fun a b => A (zk i a) (b+1)) (fun a => x (zk i a)) (fun a => y (zk i a))]
      generalize zD n _ = D
      generalize zD n _ = D'
      grind
theorem zD_rowL (n : Nat) {r : Nat} (hr : r < n) (A : Nat → Nat → Int) (x y : Nat → Int) (s t : Int) :
    zD n (fun a b => if a = r then s * x b + t * y b else A a b) = s * zD n (fun a b => if a = r then x b else A a b) + t * zD n (fun a b => if a = r then y b else A a b) := by
  rw [← zD_t n (fun a b => if a = r then s * x b + t * y b else A a b), ← zD_t n (fun a b => if a = r then x b else A a b), ← zD_t n (fun a b => if a = r then y b else A a b)]
  exact zD_colL n hr (fun a b => A b a) x y s t
/-- two neighbouring rows are equal -/
theorem zD_adj0 (n : Nat) {r : Nat} (hr : r + 1 < n) (A : Nat → Nat → Int) (h : ∀ b, b < n → A r b = A (r+1) b) : zD n A = 0 := by
  induction n generalizing r A with
  | zero => omega
  | succ n ih =>
    rw [zD, zS_two hr]
    · have e : zD n (fun a b => A (zk r a) (b+1)) = zD n (fun a b => A (zk (r+1) a) (b+1)) := by
        refine zD_congr (fun a b ha hb => ?_)
        by_cases e : a = r
        · rw [e, show zk r r = r + 1 by unfold zk; rw [if_neg (by omega)], show zk (r+1) r = r by unfold zk; rw [if_pos (by omega)]]
          exact (h (b+1) (by omega)).symm
        · rw [show zk r a = zk (r+1) a by unfold zk; split <;> split <;> omega]
      rw [e, h 0 (by omega), zG_s]
      generalize zD n _ = D
      grind
    · intro i hi h1 h2
      rw [ih (r := if i < r then r - 1 else r) (by split <;> omega) (fun a b => A (zk i a) (b+1)) ?_, Int.mul_zero]
      intro b hb
      by_cases e : i < r
      · rw [if_pos e, show zk i (r-1) = r by unfold zk; rw [if_neg (by omega)]; omega, show zk i (r-1+1) = r+1 by unfold zk; rw [if_neg (by omega)]; omega]
        exact h (b+1) (by omega)
      · rw [if_neg e, show zk i r = r by unfold zk; rw [if_pos (by omega)], show zk i (r+1) = r+1 by unfold zk; rw [if_pos (by omega)]]
        exact h (b+1) (by omega)
def zw (A : Nat → Nat → Int) (p q : Nat) : Nat → Nat → Int := fun a b => if a = p then A q b else if a = q then A p b else A a b
theorem zD_adjS (n : Nat) {r : Nat} (hr : r + 1 < n) (A : Nat → Nat → Int) : zD n (zw A r (r+1)) = -zD n A := by
  -- rows x = A r, y = A (r+1)
  have key : ∀ x y : Nat → Int, zD n (fun a b => if a = r then x b else if a = r + 1 then y b else A a b) + zD n (fun a b => if a = r then y b else if a = r + 1 then x b else A a b) = 0 := by
    intro x y
    have h0 := zD_adj0 n hr (fun a b => if a = r then 1 * x b + 1 * y b else if a = r + 1 then x b + y b else A a b) (fun b _ => by simp only [if_pos, show ¬ (r + 1 = r) by omega, if_false]; omega)
    rw [zD_rowL n (by omega) (fun a b => if a = r + 1 then x b + y b else A a b) x y 1 1] at h0
    have e1 : ∀ z : Nat → Int, zD n (fun a b => if a = r then z b else if a = r + 1 then x b + y b else A a b) = zD n (fun a b => if a = r then z b else if a = r + 1 then x b else A a b) + zD n (fun a b => if a = r then z b else if a = r + 1 then y b else A a b) := by
      intro z
      have := zD_rowL n (r := r+1) hr (fun a b => if a = r then z b else A a b) x y 1 1
      have f : ∀ w : Nat → Int, (fun a b => if a = r then z b else if a = r + 1 then w b else A a b) = (fun a b => if a = r + 1 then w b else if a = r then z b else A a b) := by
        intro w; funext a b
        by_cases e : a = r
        · rw [if_pos e, if_neg (by omega), if_pos e]
        · rw [if_neg e, if_neg e]
      rw [f x, f y, f (fun b => x b + y b)]
      have g : (fun a b => if a = r + 1 then x b + y b else if a = r then z b else A a b) = (fun a b => if a = r + 1 then 1 * x b + 1 * y b else if a = r then z b else A a b) := by
        funext a b; simp only [Int.one_mul]
      rw [g, this]; omega
    rw [e1 x, e1 y] at h0
    have h1 := zD_adj0 n hr (fun a b => if a = r then x b else if a = r + 1 then x b else A a b) (fun b _ => by simp only [if_pos, show ¬ (r + 1 = r) by omega, if_false])
    have h2 := zD_adj0 n hr (fun a b => if a = r then y b else if a = r + 1 then y b else A a b) (fun b _ => by simp only [if_pos, show ¬ (r + 1 = r) by omega, if_false])
    omega
  have h := key (A r) (A (r+1))
  have e1 : zD n (fun a b => if a = r then A r b else if a = r + 1 then A (r+1) b else A a b) = zD n A := zD_congr (fun a b _ _ => by
    by_cases e : a = r
    · rw [if_pos e, e]
    · rw [if_neg e]
      by_cases e' : a = r + 1
      · rw [if_pos e', e']
      · rw [if_neg e'])
  have e2 : zD n (fun a b => if a = r then A (r+1) b else if a = r + 1 then A r b else A a b) = zD n (zw A r (r+1)) := rfl
  omega
theorem zD_eq0 (n : Nat) (p : Nat) : ∀ (t : Nat) (A : Nat → Nat → Int), p + 1 + t < n → (∀ b, b < n → A p b = A (p+1+t) b) → zD n A = 0
  | 0, A, hr, h => zD_adj0 n hr A h
  | t+1, A, hr, h => by
    have h1 := zD_adjS n (r := p + 1 + t) (by omega) A
    have h2 := zD_eq0 n p t (zw A (p+1+t) (p+1+t+1)) (by omega) (fun b hb => by
      unfold zw
      rw [if_neg (by omega), if_neg (by omega), if_pos rfl]
      exact h b hb)
    omega
/-- two rows are equal -/
theorem zD_rr (n : Nat) (A : Nat → Nat → Int) {p q : Nat} (hpq : p ≠ q) (hp : p < n) (hq : q < n) (h : ∀ b, b < n → A p b = A q b) : zD n A = 0 := by
  rcases Nat.lt_or_gt_of_ne hpq with e | e
  · exact zD_eq0 n p (q - (p+1)) A (by omega) (fun b hb => by rw [show p + 1 + (q - (p + 1)) = q by omega]; exact h b hb)
  · exact zD_eq0 n q (p - (q+1)) A (by omega) (fun b hb => by rw [show q + 1 + (p - (q + 1)) = p by omega]; exact (h b hb).symm)
theorem zD_cc (n : Nat) (A : Nat → Nat → Int) {p q : Nat} (hpq : p ≠ q) (hp : p < n) (hq : q < n) (h : ∀ a, a < n → A a p = A a q) : zD n A = 0 := by
  rw [← zD_t n A]
  exact zD_rr n (fun a b => A b a) hpq hp hq h
end ZD
