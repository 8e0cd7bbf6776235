section ZN
def kerP (R : Nat → Nat → Int) (n : Nat) (x : Nat → Int) : Prop := ∀ i, i < n → zS 6 (fun j => R i j * x j) = 0
theorem kerP_add {R : Nat → Nat → Int} {n : Nat} {f x : Nat → Int} : kerP (addL R n f) (n+1) x ↔ kerP R n x ∧ zS 6 (fun j => f j * x j) = 0 := by
  constructor
  · intro h
    refine ⟨fun i hi => ?_, ?_⟩
    · have := h i (by omega)
      rw [zS_congr (g := fun j => R i j * x j) (fun j _ => by unfold addL; rw [if_neg (by omega)])] at this
      exact this
    · have := h n (by omega)
      rw [zS_congr (g := fun j => f j * x j) (fun j _ => by unfold addL; rw [if_pos rfl])] at this
      exact this
  · rintro ⟨h1, h2⟩ i hi
    by_cases e : i = n
    · rw [zS_congr (g := fun j => f j * x j) (fun j _ => by unfold addL; rw [if_pos e])]; exact h2
    · rw [zS_congr (g := fun j => R i j * x j) (fun j _ => by unfold addL; rw [if_neg e])]; exact h1 i (by omega)
theorem kerP_if {b : Bool} {D : (Nat → Nat → Int) × Nat} {f x : Nat → Int} : kerP (if b = true then (addL D.1 D.2 f, D.2 + 1) else D).1 (if b = true then (addL D.1 D.2 f, D.2 + 1) else D).2 x ↔ kerP D.1 D.2 x ∧ (b = true → zS 6 (fun j => f j * x j) = 0) := by
  cases b
  · rw [if_neg (by decide)]
    exact ⟨fun h => ⟨h, fun e => absurd e (by decide)⟩, fun h => h.1⟩
  · rw [if_pos rfl]
    exact kerP_add.trans ⟨fun h => ⟨h.1, fun _ => h.2⟩, fun h => ⟨h.1, h.2 rfl⟩⟩
theorem zRs_if {b : Bool} {D : (Nat → Nat → Int) × Nat} {f : Nat → Int} (hD : zRs D.1 D.2) (hf : zS 6 (fun j => ((f j).natAbs : Int)) ≤ 24) : zRs (if b = true then (addL D.1 D.2 f, D.2 + 1) else D).1 (if b = true then (addL D.1 D.2 f, D.2 + 1) else D).2 := by
  cases b
  · rw [if_neg (by decide)]; exact hD
  · rw [if_pos rfl]
    intro i hi
    have hi : i < D.2 + 1 := hi
    show zS 6 (fun j => ((addL D.1 D.2 f i j).natAbs : Int)) ≤ 24
    by_cases e : i = D.2
    · rw [zS_congr (g := fun j => ((f j).natAbs : Int)) (fun j _ => by unfold addL; rw [if_pos e])]; exact hf
    · rw [zS_congr (g := fun j => ((D.1 i j).natAbs : Int)) (fun j _ => by unfold addL; rw [if_neg e])]; exact hD i (by omega)
theorem zS_line {a b e : Nat} (ha : a < 6) (hb : b < 6) (he : e < 6) (x y z : Int) (v : Nat → Int) : zS 6 (fun j => lineV a x b y e z j * v j) = x * v a + y * v b + z * v e := by
  rw [zS_congr (g := fun j => ((if j = a then x * v j else 0) + (if j = b then y * v j else 0)) + (if j = e then z * v j else 0)) (fun j _ => by
    unfold lineV
    rw [Int.add_mul, Int.add_mul]
    have q : ∀ (P : Prop) [Decidable P] (w : Int), (if P then w else 0) * v j = if P then w * v j else 0 := fun P _ w => by
      split
      · rfl
      · exact Int.zero_mul _
    rw [q, q, q]), zS_add, zS_add, zS_one ha (fun j _ h => if_neg h), if_pos rfl, zS_one hb (fun j _ h => if_neg h), if_pos rfl, zS_one he (fun j _ h => if_neg h), if_pos rfl]
theorem line_abs {a b e : Nat} (ha : a < 6) (hb : b < 6) (he : e < 6) (x y z : Int) : zS 6 (fun j => ((lineV a x b y e z j).natAbs : Int)) ≤ x.natAbs + y.natAbs + z.natAbs := by
  have h : zS 6 (fun j => ((lineV a x b y e z j).natAbs : Int)) ≤ zS 6 (fun j => ((if j = a then (x.natAbs : Int) else 0) + (if j = b then (y.natAbs : Int) else 0)) + (if j = e then (z.natAbs : Int) else 0)) := zS_le (fun j _ => by
    unfold lineV
    have q : ∀ (P : Prop) [Decidable P] (w : Int), (((if P then w else 0 : Int).natAbs : Nat) : Int) = if P then (w.natAbs : Int) else 0 := fun P _ w => by split <;> rfl
    have h1 := Int.natAbs_add_le ((if j = a then x else 0) + (if j = b then y else 0)) (if j = e then z else 0)
    have h2 := Int.natAbs_add_le (if j = a then x else 0) (if j = b then y else 0)
    rw [← q (j = a) x, ← q (j = b) y, ← q (j = e) z]
    omega)
  rw [zS_add, zS_add, zS_one ha (fun j _ h => if_neg h), if_pos rfl, zS_one hb (fun j _ h => if_neg h), if_pos rfl, zS_one he (fun j _ h => if_neg h), if_pos rfl] at h
  exact h
def nA (c : mCf) (R : Nat → Nat → Int) (n k : Nat) : (Nat → Nat → Int) × Nat := if (decide (0 < k) && decide (k < c.m)) = true then (addL R n (lineV (2 * k - 2) 1 (2 * k - 2 + 1) (c.L (k - 1)) (2 * k) (-1)), n + 1) else (R, n)
def nB (c : mCf) (k : Nat) (A : (Nat → Nat → Int) × Nat) : (Nat → Nat → Int) × Nat := if c.Hi k = true then ((if decide (k < c.m) = true then addL A.1 A.2 (lineV (2 * k) 1 (2 * k) 0 0 0) else addL A.1 A.2 (lineV (2 * k - 2) 1 (2 * k - 2 + 1) (c.L (k - 1)) 0 0)), A.2 + 1) else A
def nC (c : mCf) (k : Nat) (B : (Nat → Nat → Int) × Nat) : (Nat → Nat → Int) × Nat := if (c.Tu k && (decide (0 < k) && !c.Hg (2 * k - 1))) = true then (addL B.1 B.2 (lineV (2 * k - 2 + 1) 1 0 0 0 0), B.2 + 1) else B
def nD (c : mCf) (k : Nat) (C : (Nat → Nat → Int) × Nat) : (Nat → Nat → Int) × Nat := if (c.Tu k && (decide (k < c.m) && !c.Hg (2 * k))) = true then (addL C.1 C.2 (lineV (2 * k + 1) 1 0 0 0 0), C.2 + 1) else C
def nE (c : mCf) (k : Nat) (D : (Nat → Nat → Int) × Nat) : (Nat → Nat → Int) × Nat := if (!c.Tu k && ((decide (0 < k) && !c.Hg (2 * k - 1)) && (decide (k < c.m) && !c.Hg (2 * k)))) = true then (addL D.1 D.2 (lineV (2 * k - 2 + 1) 1 (2 * k + 1) (-1) 0 0), D.2 + 1) else D
theorem nlP_eq (c : mCf) (R : Nat → Nat → Int) (n k : Nat) : nlP c R n k = nE c k (nD c k (nC c k (nB c k (nA c R n k)))) := rfl
theorem nB_eq (c : mCf) (k : Nat) (A : (Nat → Nat → Int) × Nat) : nB c k A = if c.Hi k = true then (addL A.1 A.2 (if k < c.m then lineV (2 * k) 1 (2 * k) 0 0 0 else lineV (2 * k - 2) 1 (2 * k - 2 + 1) (c.L (k - 1)) 0 0), A.2 + 1) else A := by
  unfold nB
  by_cases e : k < c.m
  · rw [if_pos (decide_eq_true e), if_pos e]
  · rw [if_neg (fun z => e (of_decide_eq_true z)), if_neg e]
/-- what the lines of a node say of a move of stiff beams -/
def nodeL (c : mCf) (x : Nat → Int) (k : Nat) : Prop :=
  (0 < k → k < c.m → x (2 * k) = x (2 * k - 2) + (c.L (k - 1) : Int) * x (2 * k - 2 + 1)) ∧
  (c.Hi k = true → (k < c.m → x (2 * k) = 0) ∧ (¬ k < c.m → x (2 * k - 2) + (c.L (k - 1) : Int) * x (2 * k - 2 + 1) = 0)) ∧
  (c.Tu k = true → 0 < k → c.Hg (2 * k - 1) = false → x (2 * k - 2 + 1) = 0) ∧
  (c.Tu k = true → k < c.m → c.Hg (2 * k) = false → x (2 * k + 1) = 0) ∧
  (c.Tu k = false → 0 < k → k < c.m → c.Hg (2 * k - 1) = false → c.Hg (2 * k) = false → x (2 * k - 2 + 1) = x (2 * k + 1))
theorem nlP_ker {c : mCf} (hm : c.m ≤ 3) (h1 : 1 ≤ c.m) {R : Nat → Nat → Int} {n k : Nat} (hk : k ≤ c.m) {x : Nat → Int} : kerP (nlP c R n k).1 (nlP c R n k).2 x ↔ kerP R n x ∧ nodeL c x k := by
  rw [nlP_eq]
  unfold nE
  rw [kerP_if]
  unfold nD
  rw [kerP_if]
  unfold nC
  rw [kerP_if, nB_eq, kerP_if]
  unfold nA
  rw [kerP_if (D := (R, n))]
  unfold nodeL
  have q1 : (decide (0 < k) && decide (k < c.m)) = true → zS 6 (fun j => lineV (2 * k - 2) 1 (2 * k - 2 + 1) (c.L (k - 1)) (2 * k) (-1) j * x j) = 1 * x (2 * k - 2) + (c.L (k - 1) : Int) * x (2 * k - 2 + 1) + -1 * x (2 * k) := fun h => by
    rw [Bool.and_eq_true, decide_eq_true_iff, decide_eq_true_iff] at h
    exact zS_line (by omega) (by omega) (by omega) _ _ _ x
  have q2 : k < c.m → zS 6 (fun j => lineV (2 * k) 1 (2 * k) 0 0 0 j * x j) = 1 * x (2 * k) + 0 * x (2 * k) + 0 * x 0 := fun h => zS_line (by omega) (by omega) (by omega) _ _ _ x
  have q3 : ¬ k < c.m → zS 6 (fun j => lineV (2 * k - 2) 1 (2 * k - 2 + 1) (c.L (k - 1)) 0 0 j * x j) = 1 * x (2 * k - 2) + (c.L (k - 1) : Int) * x (2 * k - 2 + 1) + 0 * x 0 := fun h => zS_line (by omega) (by omega) (by omega) _ _ _ x
  have q4 : 0 < k → zS 6 (fun j => lineV (2 * k - 2 + 1) 1 0 0 0 0 j * x j) = 1 * x (2 * k - 2 + 1) + 0 * x 0 + 0 * x 0 := fun h => zS_line (by omega) (by omega) (by omega) _ _ _ x
  have q5 : k < c.m → zS 6 (fun j => lineV (2 * k + 1) 1 0 0 0 0 j * x j) = 1 * x (2 * k + 1) + 0 * x 0 + 0 * x 0 := fun h => zS_line (by omega) (by omega) (by omega) _ _ _ x
  have q6 : 0 < k → k < c.m → zS 6 (fun j => lineV (2 * k - 2 + 1) 1 (2 * k + 1) (-1) 0 0 j * x j) = 1 * x (2 * k - 2 + 1) + -1 * x (2 * k + 1) + 0 * x 0 := fun h h' => zS_line (by omega) (by omega) (by omega) _ _ _ x
  constructor
  · rintro ⟨⟨⟨⟨⟨a0, a1⟩, a2⟩, a3⟩, a4⟩, a5⟩
    refine ⟨a0, fun b1 b2 => ?_, fun b => ⟨fun b1 => ?_, fun b1 => ?_⟩, fun b b1 b2 => ?_, fun b b1 b2 => ?_, fun b b1 b2 b3 b4 => ?_⟩
    · have hb : (decide (0 < k) && decide (k < c.m)) = true := by rw [decide_eq_true b1, decide_eq_true b2]; rfl
      have := a1 hb
      rw [q1 hb] at this; omega
    · have := a2 b
      rw [if_pos b1, q2 b1] at this; omega
    · have := a2 b
      rw [if_neg b1, q3 b1] at this; omega
    · have := a3 (by rw [b, b2, decide_eq_true b1]; rfl)
      rw [q4 b1] at this; omega
    · have := a4 (by rw [b, b2, decide_eq_true b1]; rfl)
      rw [q5 b1] at this; omega
    · have := a5 (by rw [b, b3, b4, decide_eq_true b1, decide_eq_true b2]; rfl)
      rw [q6 b1 b2] at this; omega
  · rintro ⟨a0, a1, a2, a3, a4, a5⟩
    refine ⟨⟨⟨⟨⟨a0, fun b => ?_⟩, fun b => ?_⟩, fun b => ?_⟩, fun b => ?_⟩, fun b => ?_⟩
    · rw [q1 b]
      rw [Bool.and_eq_true, decide_eq_true_iff, decide_eq_true_iff] at b
      have := a1 b.1 b.2; omega
    · by_cases e : k < c.m
      · rw [if_pos e, q2 e]; have := (a2 b).1 e; omega
      · rw [if_neg e, q3 e]; have := (a2 b).2 e; omega
    · rw [Bool.and_eq_true, Bool.and_eq_true, decide_eq_true_iff, Bool.not_eq_true'] at b
      rw [q4 b.2.1]; have := a3 b.1 b.2.1 b.2.2; omega
    · rw [Bool.and_eq_true, Bool.and_eq_true, decide_eq_true_iff, Bool.not_eq_true'] at b
      rw [q5 b.2.1]; have := a4 b.1 b.2.1 b.2.2; omega
    · rw [Bool.and_eq_true, Bool.and_eq_true, Bool.and_eq_true, Bool.and_eq_true, decide_eq_true_iff, decide_eq_true_iff, Bool.not_eq_true', Bool.not_eq_true', Bool.not_eq_true'] at b
      rw [q6 b.2.1.1 b.2.2.1]; have := a5 b.1 b.2.1.1 b.2.2.1 b.2.1.2 b.2.2.2; omega
theorem nlP_rs {c : mCf} (hok : okL c) (h1 : 1 ≤ c.m) {R : Nat → Nat → Int} {n k : Nat} (hk : k ≤ c.m) (hR : zRs R n) : zRs (nlP c R n k).1 (nlP c R n k).2 := by
  have hm := hok.1
  have hL : 0 < k → c.L (k - 1) ≤ 12 := fun h => (hok.2 (k-1) (by omega)).1.2
  rw [nlP_eq]
  by_cases h0 : 0 < k
  · have hL' := hL h0
    by_cases hkm : k < c.m
    · refine zRs_if (zRs_if (zRs_if ?_ ?_) ?_) ?_
      · rw [nB_eq]
        refine zRs_if (zRs_if (D := (R, n)) hR ?_) ?_
        · exact Int.le_trans (line_abs (by omega) (by omega) (by omega) _ _ _) (by omega)
        · rw [if_pos hkm]; exact Int.le_trans (line_abs (by omega) (by omega) (by omega) _ _ _) (by omega)
      · exact Int.le_trans (line_abs (by omega) (by omega) (by omega) _ _ _) (by omega)
      · exact Int.le_trans (line_abs (by omega) (by omega) (by omega) _ _ _) (by omega)
      · exact Int.le_trans (line_abs (by omega) (by omega) (by omega) _ _ _) (by omega)
    · have e1 : ∀ D, nE c k D = D := fun D => by unfold nE; rw [if_neg (fun z => by rw [Bool.and_eq_true, Bool.and_eq_true, Bool.and_eq_true, Bool.and_eq_true, decide_eq_true_iff, decide_eq_true_iff] at z; omega)]
      have e2 : ∀ D, nD c k D = D := fun D => by unfold nD; rw [if_neg (fun z => by rw [Bool.and_eq_true, Bool.and_eq_true, decide_eq_true_iff] at z; omega)]
      have e3 : nA c R n k = (R, n) := by unfold nA; rw [if_neg (fun z => by rw [Bool.and_eq_true, decide_eq_true_iff, decide_eq_true_iff] at z; omega)]
      rw [e1, e2, e3]
      refine zRs_if ?_ ?_
      · rw [nB_eq]
        refine zRs_if (D := (R, n)) hR ?_
        rw [if_neg hkm]; exact Int.le_trans (line_abs (by omega) (by omega) (by omega) _ _ _) (by omega)
      · exact Int.le_trans (line_abs (by omega) (by omega) (by omega) _ _ _) (by omega)
  · have e1 : ∀ D, nE c k D = D := fun D => by unfold nE; rw [if_neg (fun z => by rw [Bool.and_eq_true, Bool.and_eq_true, Bool.and_eq_true, Bool.and_eq_true, decide_eq_true_iff, decide_eq_true_iff] at z; omega)]
    have e2 : ∀ D, nC c k D = D := fun D => by unfold nC; rw [if_neg (fun z => by rw [Bool.and_eq_true, Bool.and_eq_true, decide_eq_true_iff] at z; omega)]
    have e3 : nA c R n k = (R, n) := by unfold nA; rw [if_neg (fun z => by rw [Bool.and_eq_true, decide_eq_true_iff, decide_eq_true_iff] at z; omega)]
    rw [e1, e2, e3]
    refine zRs_if ?_ ?_
    · rw [nB_eq]
      refine zRs_if (D := (R, n)) hR ?_
      rw [if_pos (by omega)]; exact Int.le_trans (line_abs (by omega) (by omega) (by omega) _ _ _) (by omega)
    · exact Int.le_trans (line_abs (by omega) (by omega) (by omega) _ _ _) (by omega)
theorem li_ker {c : mCf} (hm : c.m ≤ 3) (h1 : 1 ≤ c.m) {x : Nat → Int} : kerP (liR c) (liN c) x ↔ ∀ k, k ≤ c.m → nodeL c x k := by
  have h : ∀ t, t ≤ c.m + 1 → (kerP (nlS c t).1 (nlS c t).2 x ↔ ∀ k, k < t → nodeL c x k) := by
    intro t
    induction t with
    | zero => intro _; exact ⟨fun _ k hk => by omega, fun _ i hi => absurd (show i < 0 from hi) (by omega)⟩
    | succ t ih =>
      intro ht
      show kerP (nlP c (nlS c t).1 (nlS c t).2 t).1 (nlP c (nlS c t).1 (nlS c t).2 t).2 x ↔ _
      rw [nlP_ker hm h1 (by omega), ih (by omega)]
      constructor
      · rintro ⟨a, b⟩ k hk
        by_cases e : k = t
        · rw [e]; exact b
        · exact a k (by omega)
      · intro a; exact ⟨fun k hk => a k (by omega), a t (by omega)⟩
  rw [show kerP (liR c) (liN c) x ↔ _ from h (c.m + 1) (Nat.le_refl _)]
  exact ⟨fun a k hk => a k (by omega), fun a k hk => a k (by omega)⟩
theorem li_rs {c : mCf} (hok : okL c) (h1 : 1 ≤ c.m) : zRs (liR c) (liN c) := by
  have h : ∀ t, t ≤ c.m + 1 → zRs (nlS c t).1 (nlS c t).2 := by
    intro t
    induction t with
    | zero => intro _ i hi; exact absurd (show i < 0 from hi) (by omega)
    | succ t ih => intro ht; exact nlP_rs hok h1 (by omega) (ih (by omega))
  exact h (c.m + 1) (Nat.le_refl _)
theorem rigOk_all {c : mCf} (hok : okL c) (h1 : 1 ≤ c.m) : rigOk c := by
  have h := li_rs hok h1
  refine ⟨(rkOk_all h).1, (rkOk_all h).2, fun a b x y ha hb hx0 hx hy0 hy => rkOk_all ?_⟩
  exact zRs_if (b := true) (D := (liR c, liN c)) h (Int.le_trans (line_abs ha hb (by omega) _ _ _) (by omega))
end ZN
