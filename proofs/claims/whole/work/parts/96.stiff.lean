section ZK
/-- the stiffness of a row of beams -/
def zK (c : mCf) : Nat → Nat → Int := fun i j => puP c (i * 10 + j)
/-- what a beam's end (0: height left, 1: turning left, 2: height right, 3: turning right) wants -/
def bF (c : mCf) (x : Nat → Int) (k a : Nat) : Int := zS 4 (fun b => facZ (4 * a + b) * (c.E k : Int) * (pwP c k a b : Int) * x (coP c k b))
theorem zS_addT {T : Nat → Int} {a b i : Nat} {z : Int} (x : Nat → Int) (hb : b < 10) (ha : a < 10) (hi : i < 10) : zS 10 (fun j => addT T (a * 10 + b) z (i * 10 + j) * x j) = zS 10 (fun j => T (i * 10 + j) * x j) + if i = a then z * x b else 0 := by
  have e : ∀ j, j < 10 → addT T (a * 10 + b) z (i * 10 + j) * x j = T (i * 10 + j) * x j + (if i = a ∧ j = b then z * x b else 0) := fun j hj => by
    unfold addT
    by_cases e : i = a ∧ j = b
    · rw [if_pos e, if_pos (by omega), e.2, Int.add_mul]
    · rw [if_neg e, if_neg (by omega), Int.add_zero]
  rw [zS_congr e, zS_add]
  congr 1
  by_cases e2 : i = a
  · rw [if_pos e2, zS_one hb (fun j _ hne => if_neg (fun z => hne z.2)), if_pos ⟨e2, rfl⟩]
  · rw [if_neg e2, zS_zero (fun j _ => if_neg (fun z => e2 z.1))]
theorem zS_s (n : Nat) (f : Nat → Int) : zS (n+1) f = zS n f + f n := rfl
theorem zS_n (f : Nat → Int) : zS 0 f = 0 := rfl
/-- the stiffness of the first beams, times a vector -/
theorem puS_row {c : mCf} (hm : c.m ≤ 3) (x : Nat → Int) {i : Nat} (hi : i < 10) : ∀ k, k ≤ c.m → zS 10 (fun j => puS c (16 * k) (i * 10 + j) * x j) = zS k (fun k => zS 4 (fun a => if i = coP c k a then bF c x k a else 0))
  | 0, _ => by rw [zS_n]; exact zS_zero (fun j _ => Int.zero_mul _)
  | k + 1, hk => by
    have ih := puS_row hm x hi k (by omega)
    have hco : ∀ a, coP c k a < 10 := fun a => coP_lt (by omega) a
    have inner : ∀ a t, a < 4 → t ≤ 4 → zS 10 (fun j => puS c (16 * k + 4 * a + t) (i * 10 + j) * x j) = zS 10 (fun j => puS c (16 * k + 4 * a) (i * 10 + j) * x j) + if i = coP c k a then zS t (fun b => facZ (4 * a + b) * (c.E k : Int) * (pwP c k a b : Int) * x (coP c k b)) else 0 := by
      intro a t ha
      induction t with
      | zero => intro _; rw [zS_n]; show _ = zS 10 (fun j => puS c (16 * k + 4 * a) (i * 10 + j) * x j) + _; split <;> rw [Int.add_zero] <;> rfl
      | succ t iht =>
        intro ht
        rw [show 16 * k + 4 * a + (t + 1) = 16 * k + 4 * a + t + 1 by omega, puS_s ha (by omega : t < 4), zS_addT x (hco t) (hco a) hi, iht (by omega), zS_s t]
        split <;> omega
    have outer : ∀ t, t ≤ 4 → zS 10 (fun j => puS c (16 * k + 4 * t) (i * 10 + j) * x j) = zS 10 (fun j => puS c (16 * k) (i * 10 + j) * x j) + zS t (fun a => if i = coP c k a then bF c x k a else 0) := by
      intro t
      induction t with
      | zero => intro _; rw [zS_n, Int.add_zero]; rfl
      | succ t iht =>
        intro ht
        rw [show 16 * k + 4 * (t + 1) = 16 * k + 4 * t + 4 by omega, inner t 4 (by omega) (by omega), iht (by omega), zS_s t, Int.add_assoc]
        rfl
    rw [show 16 * (k + 1) = 16 * k + 4 * 4 by omega, outer 4 (by omega), ih]
    rfl
theorem zK_row {c : mCf} (hm : c.m ≤ 3) (x : Nat → Int) {i : Nat} (hi : i < 10) : zS 10 (fun j => zK c i j * x j) = zS c.m (fun k => zS 4 (fun a => if i = coP c k a then bF c x k a else 0)) := puS_row hm x hi c.m (Nat.le_refl _)
theorem bF_0 (c : mCf) (x : Nat → Int) (k : Nat) : bF c x k 0 = (c.E k : Int) * (rtP c k : Int) * (rtP c k : Int) * (12 * (rtP c k : Int) * (x k - x (k+1)) + 6 * (x (esP c (2 * k)) + x (esP c (2 * k + 1)))) := by
  show 0 + facZ 0 * (c.E k : Int) * (pwP c k 0 0 : Int) * x (coP c k 0) + facZ 1 * (c.E k : Int) * (pwP c k 0 1 : Int) * x (coP c k 1) + facZ 2 * (c.E k : Int) * (pwP c k 0 2 : Int) * x (coP c k 2) + facZ 3 * (c.E k : Int) * (pwP c k 0 3 : Int) * x (coP c k 3) = _
  have f0 : facZ 0 = 12 := rfl
  have f1 : facZ 1 = 6 := rfl
  have f2 : facZ 2 = -12 := rfl
  have f3 : facZ 3 = 6 := rfl
  have p0 : (pwP c k 0 0 : Int) = (rtP c k : Int) * (rtP c k : Int) * (rtP c k : Int) := by show ((rtP c k * rtP c k * rtP c k : Nat) : Int) = _; rw [Int.natCast_mul, Int.natCast_mul]
  have p1 : (pwP c k 0 1 : Int) = (rtP c k : Int) * (rtP c k : Int) * 1 := by show ((rtP c k * rtP c k * 1 : Nat) : Int) = _; rw [Int.natCast_mul, Int.natCast_mul]; rfl
  have p2 : (pwP c k 0 2 : Int) = (rtP c k : Int) * (rtP c k : Int) * (rtP c k : Int) := by show ((rtP c k * rtP c k * rtP c k : Nat) : Int) = _; rw [Int.natCast_mul, Int.natCast_mul]
  have p3 : (pwP c k 0 3 : Int) = (rtP c k : Int) * (rtP c k : Int) * 1 := by show ((rtP c k * rtP c k * 1 : Nat) : Int) = _; rw [Int.natCast_mul, Int.natCast_mul]; rfl
  rw [f0, f1, f2, f3, p0, p1, p2, p3]
  show 0 + 12 * (c.E k : Int) * _ * x k + 6 * (c.E k : Int) * _ * x (esP c (2 * k)) + -12 * (c.E k : Int) * _ * x (k + 1) + 6 * (c.E k : Int) * _ * x (esP c (2 * k + 1)) = _
  grind
theorem bF_2 (c : mCf) (x : Nat → Int) (k : Nat) : bF c x k 2 = -bF c x k 0 := by
  rw [bF_0]
  show 0 + facZ 8 * (c.E k : Int) * (pwP c k 2 0 : Int) * x (coP c k 0) + facZ 9 * (c.E k : Int) * (pwP c k 2 1 : Int) * x (coP c k 1) + facZ 10 * (c.E k : Int) * (pwP c k 2 2 : Int) * x (coP c k 2) + facZ 11 * (c.E k : Int) * (pwP c k 2 3 : Int) * x (coP c k 3) = _
  have f0 : facZ 8 = -12 := rfl
  have f1 : facZ 9 = -6 := rfl
  have f2 : facZ 10 = 12 := rfl
  have f3 : facZ 11 = -6 := rfl
  have p0 : (pwP c k 2 0 : Int) = (rtP c k : Int) * (rtP c k : Int) * (rtP c k : Int) := by show ((rtP c k * rtP c k * rtP c k : Nat) : Int) = _; rw [Int.natCast_mul, Int.natCast_mul]
  have p1 : (pwP c k 2 1 : Int) = (rtP c k : Int) * (rtP c k : Int) * 1 := by show ((rtP c k * rtP c k * 1 : Nat) : Int) = _; rw [Int.natCast_mul, Int.natCast_mul]; rfl
  have p2 : (pwP c k 2 2 : Int) = (rtP c k : Int) * (rtP c k : Int) * (rtP c k : Int) := by show ((rtP c k * rtP c k * rtP c k : Nat) : Int) = _; rw [Int.natCast_mul, Int.natCast_mul]
  have p3 : (pwP c k 2 3 : Int) = (rtP c k : Int) * (rtP c k : Int) * 1 := by show ((rtP c k * rtP c k * 1 : Nat) : Int) = _; rw [Int.natCast_mul, Int.natCast_mul]; rfl
  rw [f0, f1, f2, f3, p0, p1, p2, p3]
  show 0 + -12 * (c.E k : Int) * _ * x k + -6 * (c.E k : Int) * _ * x (esP c (2 * k)) + 12 * (c.E k : Int) * _ * x (k + 1) + -6 * (c.E k : Int) * _ * x (esP c (2 * k + 1)) = _
  grind
theorem bF_1 (c : mCf) (x : Nat → Int) (k : Nat) : bF c x k 1 = (c.E k : Int) * (rtP c k : Int) * (6 * (rtP c k : Int) * (x k - x (k+1)) + 4 * x (esP c (2 * k)) + 2 * x (esP c (2 * k + 1))) := by
  show 0 + facZ 4 * (c.E k : Int) * (pwP c k 1 0 : Int) * x (coP c k 0) + facZ 5 * (c.E k : Int) * (pwP c k 1 1 : Int) * x (coP c k 1) + facZ 6 * (c.E k : Int) * (pwP c k 1 2 : Int) * x (coP c k 2) + facZ 7 * (c.E k : Int) * (pwP c k 1 3 : Int) * x (coP c k 3) = _
  have f0 : facZ 4 = 6 := rfl
  have f1 : facZ 5 = 4 := rfl
  have f2 : facZ 6 = -6 := rfl
  have f3 : facZ 7 = 2 := rfl
  have p0 : (pwP c k 1 0 : Int) = (rtP c k : Int) * 1 * (rtP c k : Int) := by show ((rtP c k * 1 * rtP c k : Nat) : Int) = _; rw [Int.natCast_mul, Int.natCast_mul]; rfl
  have p1 : (pwP c k 1 1 : Int) = (rtP c k : Int) * 1 * 1 := by show ((rtP c k * 1 * 1 : Nat) : Int) = _; rw [Int.natCast_mul, Int.natCast_mul]; rfl
  have p2 : (pwP c k 1 2 : Int) = (rtP c k : Int) * 1 * (rtP c k : Int) := by show ((rtP c k * 1 * rtP c k : Nat) : Int) = _; rw [Int.natCast_mul, Int.natCast_mul]; rfl
  have p3 : (pwP c k 1 3 : Int) = (rtP c k : Int) * 1 * 1 := by show ((rtP c k * 1 * 1 : Nat) : Int) = _; rw [Int.natCast_mul, Int.natCast_mul]; rfl
  rw [f0, f1, f2, f3, p0, p1, p2, p3]
  show 0 + 6 * (c.E k : Int) * _ * x k + 4 * (c.E k : Int) * _ * x (esP c (2 * k)) + -6 * (c.E k : Int) * _ * x (k + 1) + 2 * (c.E k : Int) * _ * x (esP c (2 * k + 1)) = _
  grind
theorem bF_3 (c : mCf) (x : Nat → Int) (k : Nat) : bF c x k 3 = (c.E k : Int) * (rtP c k : Int) * (6 * (rtP c k : Int) * (x k - x (k+1)) + 2 * x (esP c (2 * k)) + 4 * x (esP c (2 * k + 1))) := by
  show 0 + facZ 12 * (c.E k : Int) * (pwP c k 3 0 : Int) * x (coP c k 0) + facZ 13 * (c.E k : Int) * (pwP c k 3 1 : Int) * x (coP c k 1) + facZ 14 * (c.E k : Int) * (pwP c k 3 2 : Int) * x (coP c k 2) + facZ 15 * (c.E k : Int) * (pwP c k 3 3 : Int) * x (coP c k 3) = _
  have f0 : facZ 12 = 6 := rfl
  have f1 : facZ 13 = 2 := rfl
  have f2 : facZ 14 = -6 := rfl
  have f3 : facZ 15 = 4 := rfl
  have p0 : (pwP c k 3 0 : Int) = (rtP c k : Int) * 1 * (rtP c k : Int) := by show ((rtP c k * 1 * rtP c k : Nat) : Int) = _; rw [Int.natCast_mul, Int.natCast_mul]; rfl
  have p1 : (pwP c k 3 1 : Int) = (rtP c k : Int) * 1 * 1 := by show ((rtP c k * 1 * 1 : Nat) : Int) = _; rw [Int.natCast_mul, Int.natCast_mul]; rfl
  have p2 : (pwP c k 3 2 : Int) = (rtP c k : Int) * 1 * (rtP c k : Int) := by show ((rtP c k * 1 * rtP c k : Nat) : Int) = _; rw [Int.natCast_mul, Int.natCast_mul]; rfl
  have p3 : (pwP c k 3 3 : Int) = (rtP c k : Int) * 1 * 1 := by show ((rtP c k * 1 * 1 : Nat) : Int) = _; rw [Int.natCast_mul, Int.natCast_mul]; rfl
  rw [f0, f1, f2, f3, p0, p1, p2, p3]
  show 0 + 6 * (c.E k : Int) * _ * x k + 2 * (c.E k : Int) * _ * x (esP c (2 * k)) + -6 * (c.E k : Int) * _ * x (k + 1) + 4 * (c.E k : Int) * _ * x (esP c (2 * k + 1)) = _
  grind
/-- the work of two shapes -/
theorem zK_bil {c : mCf} (hm : c.m ≤ 3) (x z : Nat → Int) : zS 10 (fun i => z i * zS 10 (fun j => zK c i j * x j)) = zS c.m (fun k => z k * bF c x k 0 + z (esP c (2 * k)) * bF c x k 1 + z (k+1) * bF c x k 2 + z (esP c (2 * k + 1)) * bF c x k 3) := by
  rw [zS_congr (g := fun i => zS c.m (fun k => z i * zS 4 (fun a => if i = coP c k a then bF c x k a else 0))) (fun i hi => by rw [zK_row hm x hi, ← zS_mul]), zS_swap]
  refine zS_congr (fun k hk => ?_)
  rw [zS_congr (g := fun i => zS 4 (fun a => z i * (if i = coP c k a then bF c x k a else 0))) (fun i _ => by rw [← zS_mul]), zS_swap]
  have e : ∀ a, a < 4 → zS 10 (fun i => z i * (if i = coP c k a then bF c x k a else 0)) = z (coP c k a) * bF c x k a := fun a _ => by
    rw [zS_one (coP_lt (c := c) (k := k) (by omega) a) (fun i _ hne => by rw [if_neg hne, Int.mul_zero]), if_pos rfl]
  rw [zS_congr e]
  show 0 + z (coP c k 0) * _ + z (coP c k 1) * _ + z (coP c k 2) * _ + z (coP c k 3) * _ = _
  rw [Int.zero_add]
  rfl
/-- the bending of a beam -/
def bN2 (c : mCf) (x : Nat → Int) (k : Nat) : Int := 2 * (rtP c k : Int) * (x k - x (k+1)) + x (esP c (2 * k)) + x (esP c (2 * k + 1))
def bN1 (c : mCf) (x : Nat → Int) (k : Nat) : Int := x (esP c (2 * k)) - x (esP c (2 * k + 1))
theorem zK_en {c : mCf} (hm : c.m ≤ 3) (x : Nat → Int) : zS 10 (fun i => x i * zS 10 (fun j => zK c i j * x j)) = zS c.m (fun k => (c.E k : Int) * (rtP c k : Int) * (3 * (bN2 c x k * bN2 c x k) + bN1 c x k * bN1 c x k)) := by
  rw [zK_bil hm x x]
  refine zS_congr (fun k _ => ?_)
  rw [bF_2, bF_0, bF_1, bF_3]
  unfold bN2 bN1
  grind
theorem sq0 (a : Int) : 0 ≤ a * a := by
  rcases Int.le_total 0 a with h | h
  · exact Int.mul_nonneg h h
  · exact Int.mul_nonneg_of_nonpos_of_nonpos h h
theorem zK_ps {c : mCf} (hm : c.m ≤ 3) : zPs (zK c) := fun x => by
  rw [zK_en hm]
  refine zS_nonneg (fun k _ => ?_)
  refine Int.mul_nonneg (Int.mul_nonneg (by omega) (by omega)) ?_
  have := sq0 (bN2 c x k)
  have := sq0 (bN1 c x k)
  omega
theorem zK_sy {c : mCf} (hm : c.m ≤ 3) : zSy (zK c) := fun i j hi hj => by
  have e : ∀ a b, a < 10 → b < 10 → zK c a b = zS 10 (fun i => (if i = a then 1 else 0) * zS 10 (fun j => zK c i j * (if j = b then 1 else 0))) := fun a b ha hb => by
    rw [zS_one ha (fun i _ hne => by rw [if_neg hne, Int.zero_mul]), if_pos rfl, Int.one_mul, zS_one hb (fun j _ hne => by rw [if_neg hne, Int.mul_zero]), if_pos rfl, Int.mul_one]
  rw [e i j hi hj, e j i hj hi, zK_bil hm (fun b => if b = j then 1 else 0) (fun a => if a = i then 1 else 0), zK_bil hm (fun b => if b = i then 1 else 0) (fun a => if a = j then 1 else 0)]
  refine zS_congr (fun k _ => ?_)
  rw [bF_2, bF_0, bF_1, bF_3, bF_2, bF_0, bF_1, bF_3]
  generalize (if k = i then (1 : Int) else 0) = a0
  generalize (if esP c (2 * k) = i then (1 : Int) else 0) = a1
  generalize (if k + 1 = i then (1 : Int) else 0) = a2
  generalize (if esP c (2 * k + 1) = i then (1 : Int) else 0) = a3
  generalize (if k = j then (1 : Int) else 0) = b0
  generalize (if esP c (2 * k) = j then (1 : Int) else 0) = b1
  generalize (if k + 1 = j then (1 : Int) else 0) = b2
  generalize (if esP c (2 * k + 1) = j then (1 : Int) else 0) = b3
  grind
theorem scP_s {c : mCf} (h : okL c) {k : Nat} (hk : k < 3) : scP c k ∣ scP c (k+1) ∧ c.L k ∣ scP c (k+1) := by
  show _ ∣ scP c k / Nat.gcd (scP c k) (c.L k) * c.L k ∧ _ ∣ scP c k / Nat.gcd (scP c k) (c.L k) * c.L k
  have hL := (h.2 k hk).1.1
  have hg : 0 < Nat.gcd (scP c k) (c.L k) := Nat.gcd_pos_of_pos_right _ (by omega)
  refine ⟨?_, Nat.dvd_mul_left _ _⟩
  obtain ⟨a, ha⟩ := Nat.gcd_dvd_left (scP c k) (c.L k)
  obtain ⟨b, hb⟩ := Nat.gcd_dvd_right (scP c k) (c.L k)
  have e1 : scP c k / Nat.gcd (scP c k) (c.L k) = a := Nat.div_eq_of_eq_mul_right hg ha
  rw [e1]
  refine ⟨b, ?_⟩
  generalize Nat.gcd (scP c k) (c.L k) = g at *
  rw [ha, hb]
  grind
theorem scP_dvd {c : mCf} (h : okL c) : ∀ j, j ≤ 3 → ∀ k, k < j → c.L k ∣ scP c j
  | 0, _, k, hk => by omega
  | j + 1, hj, k, hk => by
    by_cases e : k = j
    · rw [e]; exact (scP_s h (by omega)).2
    · exact Nat.dvd_trans (scP_dvd h j (by omega) k (by omega)) (scP_s h (by omega)).1
theorem rtP_mul {c : mCf} (h : okL c) {k : Nat} (hk : k < c.m) : rtP c k * c.L k = scP c c.m := Nat.div_mul_cancel (scP_dvd h c.m h.1 k hk)
theorem rtP_pos {c : mCf} (hok : okL c) {k : Nat} (hk : k < c.m) : 1 ≤ rtP c k := by
  have h1 := rtP_mul hok hk
  have h2 := (scP_ok hok c.m hok.1).1
  refine Classical.byContradiction (fun hn => ?_)
  rw [show rtP c k = 0 by omega, Nat.zero_mul] at h1
  omega
/-- a move without load bends nothing -/
theorem zK_rig {c : mCf} (hok : okL c) {fr : Nat → Bool} {x : Nat → Int} (hx : zKer (zK c) fr x) : ∀ k, k < c.m → x (esP c (2 * k)) = (rtP c k : Int) * (x (k+1) - x k) ∧ x (esP c (2 * k + 1)) = (rtP c k : Int) * (x (k+1) - x k) := by
  have h0 : zS 10 (fun i => x i * zS 10 (fun j => zK c i j * x j)) = 0 := zS_zero (fun i hi => by
    cases e : fr i
    · rw [hx.1 i hi e, Int.zero_mul]
    · rw [hx.2 i hi e, Int.mul_zero])
  rw [zK_en hok.1] at h0
  have hz := zS_sq0 (fun k _ => by
    refine Int.mul_nonneg (Int.mul_nonneg (by omega) (by omega)) ?_
    have := sq0 (bN2 c x k)
    have := sq0 (bN1 c x k)
    omega) h0
  intro k hk
  have h1 := hz k hk
  have hr := rtP_pos hok hk
  have hE := (hok.2 k (by have := hok.1; omega)).2.1
  have h2 : 3 * (bN2 c x k * bN2 c x k) + bN1 c x k * bN1 c x k = 0 := by
    rcases Int.mul_eq_zero.mp h1 with e | e
    · rcases Int.mul_eq_zero.mp e with f | f <;> omega
    · exact e
  have q1 := sq0 (bN2 c x k)
  have q2 := sq0 (bN1 c x k)
  have h3 : bN2 c x k = 0 := by
    have : bN2 c x k * bN2 c x k = 0 := by omega
    rcases Int.mul_eq_zero.mp this with e | e <;> exact e
  have h4 : bN1 c x k = 0 := by
    have : bN1 c x k * bN1 c x k = 0 := by omega
    rcases Int.mul_eq_zero.mp this with e | e <;> exact e
  unfold bN2 at h3
  unfold bN1 at h4
  constructor <;> grind
end ZK
