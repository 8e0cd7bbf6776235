section ZT1
/-- a line of the system, on a vector -/
def zf (T : Nat → Int) (r : Nat) (x : Nat → Int) : Int := zS 28 (fun j => T (28 * r + j) * x j)
theorem zf_add {T x : Nat → Int} {r r' j : Nat} {z : Int} (hj : j < 28) : zf (addT T (28 * r' + j) z) r x = zf T r x + if r = r' then z * x j else 0 := by
  unfold zf
  have e : ∀ i, i < 28 → addT T (28 * r' + j) z (28 * r + i) * x i = T (28 * r + i) * x i + (if r = r' ∧ i = j then z * x j else 0) := fun i hi => by
    unfold addT
    by_cases e : r = r' ∧ i = j
    · rw [if_pos e, if_pos (by omega), e.2, Int.add_mul]
    · rw [if_neg e, if_neg (by omega), Int.add_zero]
  rw [zS_congr e, zS_add]
  congr 1
  by_cases e2 : r = r'
  · rw [if_pos e2, zS_one hj (fun i _ hne => if_neg (fun z => hne z.2)), if_pos ⟨e2, rfl⟩]
  · rw [if_neg e2, zS_zero (fun i _ => if_neg (fun z => e2 z.1))]
/-- loads behind the left end -/
def LDs (c : mCf) (x : Nat → Int) (b kind : Nat) (by0 : Int) : Int := -(by0 * powP kind (behP c b 1)) * x (colP c b 1) + -(by0 * powP kind (behP c b 2)) * x (colP c b 2) + -(by0 * powP kind (behP c b 3)) * x (colP c b 3)
theorem loads_zf {c : mCf} (hm : c.m ≤ 3) {T x : Nat → Int} {r r' b kind : Nat} {by0 : Int} (hb : b < c.m) : zf (loadsP c r' T b kind by0) r x = zf T r x + if r = r' then LDs c x b kind by0 else 0 := by
  unfold loadsP
  have h : ∀ p, p ≤ 4 → colP c b p < 28 := fun p hp => by unfold colP; omega
  rw [zf_add (h 3 (by omega)), zf_add (h 2 (by omega)), zf_add (h 1 (by omega))]
  unfold LDs
  split <;> omega
/-- the right end's move, turn, moment -/
def RMv (c : mCf) (x : Nat → Int) (b : Nat) : Int := 384 * (c.E b : Int) * x (4 * b) + 384 * (c.E b : Int) * (c.L b : Int) * x (4 * b + 1) + -192 * (c.L b : Int) * (c.L b : Int) * x (4 * b + 2) + -64 * (c.L b : Int) * (c.L b : Int) * (c.L b : Int) * x (4 * b + 3) + LDs c x b 3 1
def RTn (c : mCf) (x : Nat → Int) (b : Nat) : Int := 32 * (c.E b : Int) * x (4 * b + 1) + -32 * (c.L b : Int) * x (4 * b + 2) + -16 * (c.L b : Int) * (c.L b : Int) * x (4 * b + 3) + LDs c x b 2 1
def RMo (c : mCf) (x : Nat → Int) (b : Nat) : Int := 4 * 1 * x (4 * b + 2) + 4 * 1 * (c.L b : Int) * x (4 * b + 3) + LDs c x b 1 (-1)
theorem rM_zf {c : mCf} (hm : c.m ≤ 3) {T x : Nat → Int} {r r' b : Nat} (hb : b < c.m) : zf (rMoveP c r' T b) r x = zf T r x + if r = r' then RMv c x b else 0 := by
  unfold rMoveP
  rw [loads_zf hm hb, zf_add (by omega), zf_add (by omega), zf_add (by omega), zf_add (by omega)]
  unfold RMv
  split <;> omega
theorem rT_zf {c : mCf} (hm : c.m ≤ 3) {T x : Nat → Int} {r r' b : Nat} (hb : b < c.m) : zf (rTurnP c r' T b) r x = zf T r x + if r = r' then RTn c x b else 0 := by
  unfold rTurnP
  rw [loads_zf hm hb, zf_add (by omega), zf_add (by omega), zf_add (by omega)]
  unfold RTn
  split <;> omega
theorem rO_zf {c : mCf} (hm : c.m ≤ 3) {T x : Nat → Int} {r r' b : Nat} (hb : b < c.m) : zf (rMomP c r' T b 1) r x = zf T r x + if r = r' then RMo c x b else 0 := by
  unfold rMomP
  rw [loads_zf hm hb, zf_add (by omega), zf_add (by omega)]
  unfold RMo
  split <;> omega
def rA (D D' : (Nat → Int) × Nat) (x : Nat → Int) (val : Int) : Prop := D'.2 = D.2 + 1 ∧ ∀ r, zf D'.1 r x = zf D.1 r x + if r = D.2 then val else 0
def fT (D : (Nat → Int) × Nat) (x : Nat → Int) : Prop := ∀ r, D.2 ≤ r → zf D.1 r x = 0
def kT (D : (Nat → Int) × Nat) (x : Nat → Int) : Prop := ∀ r, r < D.2 → zf D.1 r x = 0
theorem rA.f {D D' : (Nat → Int) × Nat} {x : Nat → Int} {val : Int} (h : rA D D' x val) (hf : fT D x) : fT D' x := fun r hr => by
  rw [h.1] at hr
  rw [h.2, hf r (by omega), if_neg (by omega)]; rfl
theorem rA.k {D D' : (Nat → Int) × Nat} {x : Nat → Int} {val : Int} (h : rA D D' x val) (hf : fT D x) (hk : kT D' x) : kT D x ∧ val = 0 := by
  refine ⟨fun r hr => ?_, ?_⟩
  · have := hk r (by rw [h.1]; omega)
    rw [h.2, if_neg (by omega), Int.add_zero] at this
    exact this
  · have := hk D.2 (by rw [h.1]; omega)
    rw [h.2, hf D.2 (Nat.le_refl _), if_pos rfl, Int.zero_add] at this
    exact this
/-- a step of the table: a line more, if b -/
def rS (D D' : (Nat → Int) × Nat) (x : Nat → Int) (b : Bool) (val : Int) : Prop := (b = true → rA D D' x val) ∧ (b = false → D' = D)
theorem rS.f {D D' : (Nat → Int) × Nat} {x : Nat → Int} {b : Bool} {val : Int} (h : rS D D' x b val) (hf : fT D x) : fT D' x := by
  cases e : b
  · rw [h.2 e]; exact hf
  · exact (h.1 e).f hf
theorem rS.k {D D' : (Nat → Int) × Nat} {x : Nat → Int} {b : Bool} {val : Int} (h : rS D D' x b val) (hf : fT D x) (hk : kT D' x) : kT D x ∧ (b = true → val = 0) := by
  cases e : b
  · rw [h.2 e] at hk; exact ⟨hk, fun z => absurd z (by decide)⟩
  · have := (h.1 e).k hf hk; exact ⟨this.1, fun _ => this.2⟩
def hA (c : mCf) (k : Nat) (D : (Nat → Int) × Nat) : (Nat → Int) × Nat := if 0 < k ∧ k < c.m then (addT (rMoveP c D.2 D.1 (k - 1)) (28 * D.2 + 4 * k) (-384 * c.E (k - 1)), D.2 + 1) else D
def hB (c : mCf) (k : Nat) (A : (Nat → Int) × Nat) : (Nat → Int) × Nat := (if c.Hi k = true then
      (if k < c.m then addT (addT A.1 (28 * A.2 + 4 * k) 1) (28 * A.2 + 9 * c.m) (c.Se k) else addT (rMoveP c A.2 A.1 (k - 1)) (28 * A.2 + 9 * c.m) (384 * c.E (k - 1) * c.Se k))
    else
      (let C := if k < c.m then addT (addT A.1 (28 * A.2 + (4 * k + 3)) 1) (28 * A.2 + colP c k 0) (-1) else A.1
       if 0 < k then addT (loadsP c A.2 (addT C (28 * A.2 + (4 * k - 1)) (-1)) (k - 1) 0 1) (28 * A.2 + colP c (k - 1) 4) (-1) else C), A.2 + 1)
theorem height_eq (c : mCf) (T : Nat → Int) (r k : Nat) : heightP c T r k = hB c k (hA c k (T, r)) := rfl
def tA (c : mCf) (k : Nat) (D : (Nat → Int) × Nat) : (Nat → Int) × Nat := if (decide (0 < k) && c.Hg (2 * k - 1)) = true then (rMomP c D.2 D.1 (k - 1) 1, D.2 + 1) else D
def tB (c : mCf) (k : Nat) (A : (Nat → Int) × Nat) : (Nat → Int) × Nat := if (decide (k < c.m) && c.Hg (2 * k)) = true then (addT A.1 (28 * A.2 + (4 * k + 2)) 1, A.2 + 1) else A
def tC (c : mCf) (k : Nat) (B : (Nat → Int) × Nat) : (Nat → Int) × Nat := if (decide (0 < k) && !c.Hg (2 * k - 1)) = true then (rTurnP c B.2 B.1 (k - 1), B.2 + 1) else B
def tD (c : mCf) (k : Nat) (C : (Nat → Int) × Nat) : (Nat → Int) × Nat := if (decide (k < c.m) && !c.Hg (2 * k)) = true then (addT C.1 (28 * C.2 + (4 * k + 1)) 1, C.2 + 1) else C
def tE (c : mCf) (k : Nat) (B : (Nat → Int) × Nat) : (Nat → Int) × Nat := if ((decide (0 < k) && !c.Hg (2 * k - 1)) && (decide (k < c.m) && !c.Hg (2 * k))) = true then (addT (rTurnP c B.2 B.1 (k - 1)) (28 * B.2 + (4 * k + 1)) (-32 * c.E (k - 1)), B.2 + 1) else B
def tF (c : mCf) (k : Nat) (C : (Nat → Int) × Nat) : (Nat → Int) × Nat :=
  (let D : Nat → Int := if (decide (0 < k) && !c.Hg (2 * k - 1)) = true then rMomP c C.2 C.1 (k - 1) 1 else C.1
   if (decide (k < c.m) && !c.Hg (2 * k)) = true then addT D (28 * C.2 + (4 * k + 2)) (-4) else D, C.2 + 1)
theorem turn_eq (c : mCf) (T : Nat → Int) (r k : Nat) : turnP c T r k = if ((decide (0 < k) && !c.Hg (2 * k - 1)) || (decide (k < c.m) && !c.Hg (2 * k))) = false then tB c k (tA c k (T, r)) else if c.Tu k = true then tD c k (tC c k (tB c k (tA c k (T, r)))) else tF c k (tE c k (tB c k (tA c k (T, r)))) := rfl
/-- what the second line of a node says -/
def hV (c : mCf) (x : Nat → Int) (k : Nat) : Int := if c.Hi k = true then (if k < c.m then x (4 * k) + c.Se k * x (9 * c.m) else RMv c x (k - 1) + 384 * (c.E (k - 1) : Int) * c.Se k * x (9 * c.m))
  else (if k < c.m then x (4 * k + 3) - x (colP c k 0) else 0) + (if 0 < k then -x (4 * k - 1) + LDs c x (k - 1) 0 1 - x (colP c (k - 1) 4) else 0)
theorem hA_s {c : mCf} (hm : c.m ≤ 3) (x : Nat → Int) (k : Nat) (D : (Nat → Int) × Nat) : rS D (hA c k D) x (decide (0 < k ∧ k < c.m)) (RMv c x (k - 1) - 384 * (c.E (k - 1) : Int) * x (4 * k)) := by
  refine ⟨fun h => ?_, fun h => if_neg (of_decide_eq_false h)⟩
  have h := of_decide_eq_true h
  unfold hA
  rw [if_pos h]
  refine ⟨rfl, fun r => ?_⟩
  show zf (addT (rMoveP c D.2 D.1 (k - 1)) (28 * D.2 + 4 * k) (-384 * c.E (k - 1))) r x = _
  rw [zf_add (by omega), rM_zf hm (by omega)]
  have e : -384 * (c.E (k - 1) : Int) * x (4 * k) = -(384 * (c.E (k - 1) : Int) * x (4 * k)) := by grind
  split <;> omega
theorem hB_1 (c : mCf) (k : Nat) (A : (Nat → Int) × Nat) : (hB c k A).1 = if c.Hi k = true then
      (if k < c.m then addT (addT A.1 (28 * A.2 + 4 * k) 1) (28 * A.2 + 9 * c.m) (c.Se k) else addT (rMoveP c A.2 A.1 (k - 1)) (28 * A.2 + 9 * c.m) (384 * c.E (k - 1) * c.Se k))
    else (if 0 < k then addT (loadsP c A.2 (addT (if k < c.m then addT (addT A.1 (28 * A.2 + (4 * k + 3)) 1) (28 * A.2 + colP c k 0) (-1) else A.1) (28 * A.2 + (4 * k - 1)) (-1)) (k - 1) 0 1) (28 * A.2 + colP c (k - 1) 4) (-1) else (if k < c.m then addT (addT A.1 (28 * A.2 + (4 * k + 3)) 1) (28 * A.2 + colP c k 0) (-1) else A.1)) := rfl
theorem hB_s {c : mCf} (hm : c.m ≤ 3) (h1 : 1 ≤ c.m) (x : Nat → Int) {k : Nat} (hk : k ≤ c.m) (A : (Nat → Int) × Nat) : rA A (hB c k A) x (hV c x k) := by
  refine ⟨rfl, fun r => ?_⟩
  have hcol : ∀ b p, b < c.m → p ≤ 4 → colP c b p < 28 := fun b p hb hp => by unfold colP; omega
  rw [hB_1]
  unfold hV
  by_cases hH : c.Hi k = true
  · rw [if_pos hH, if_pos hH]
    by_cases e : k < c.m
    · rw [if_pos e, if_pos e, zf_add (by omega), zf_add (by omega)]
      split <;> omega
    · rw [if_neg e, if_neg e, zf_add (by omega), rM_zf hm (by omega)]
      split <;> omega
  · rw [if_neg hH, if_neg hH]
    by_cases e0 : 0 < k
    · rw [if_pos e0, if_pos e0, zf_add (hcol _ _ (by omega) (by omega)), loads_zf hm (by omega), zf_add (by omega)]
      by_cases e : k < c.m
      · rw [if_pos e, if_pos e, zf_add (hcol _ _ (by omega) (by omega)), zf_add (by omega)]
        split <;> omega
      · rw [if_neg e, if_neg e]
        split <;> omega
    · rw [if_neg e0, if_neg e0]
      have e : k < c.m := by omega
      rw [if_pos e, if_pos e, zf_add (hcol _ _ (by omega) (by omega)), zf_add (by omega)]
      split <;> omega
theorem tA_s {c : mCf} (hm : c.m ≤ 3) (x : Nat → Int) {k : Nat} (hk : k ≤ c.m) (D : (Nat → Int) × Nat) : rS D (tA c k D) x (decide (0 < k) && c.Hg (2 * k - 1)) (RMo c x (k - 1)) := by
  refine ⟨fun h => ?_, fun h => if_neg (by rw [h]; decide)⟩
  have h0 := h
  rw [Bool.and_eq_true, decide_eq_true_iff] at h0
  unfold tA
  rw [if_pos h]
  refine ⟨rfl, fun r => ?_⟩
  show zf (rMomP c D.2 D.1 (k - 1) 1) r x = _
  rw [rO_zf hm (by omega)]
theorem tB_s {c : mCf} (hm : c.m ≤ 3) (x : Nat → Int) (k : Nat) (D : (Nat → Int) × Nat) : rS D (tB c k D) x (decide (k < c.m) && c.Hg (2 * k)) (x (4 * k + 2)) := by
  refine ⟨fun h => ?_, fun h => if_neg (by rw [h]; decide)⟩
  have h0 := h
  rw [Bool.and_eq_true, decide_eq_true_iff] at h0
  unfold tB
  rw [if_pos h]
  refine ⟨rfl, fun r => ?_⟩
  show zf (addT D.1 (28 * D.2 + (4 * k + 2)) 1) r x = _
  rw [zf_add (by omega), Int.one_mul]
theorem tC_s {c : mCf} (hm : c.m ≤ 3) (x : Nat → Int) {k : Nat} (hk : k ≤ c.m) (D : (Nat → Int) × Nat) : rS D (tC c k D) x (decide (0 < k) && !c.Hg (2 * k - 1)) (RTn c x (k - 1)) := by
  refine ⟨fun h => ?_, fun h => if_neg (by rw [h]; decide)⟩
  have h0 := h
  rw [Bool.and_eq_true, decide_eq_true_iff] at h0
  unfold tC
  rw [if_pos h]
  refine ⟨rfl, fun r => ?_⟩
  show zf (rTurnP c D.2 D.1 (k - 1)) r x = _
  rw [rT_zf hm (by omega)]
theorem tD_s {c : mCf} (hm : c.m ≤ 3) (x : Nat → Int) (k : Nat) (D : (Nat → Int) × Nat) : rS D (tD c k D) x (decide (k < c.m) && !c.Hg (2 * k)) (x (4 * k + 1)) := by
  refine ⟨fun h => ?_, fun h => if_neg (by rw [h]; decide)⟩
  have h0 := h
  rw [Bool.and_eq_true, decide_eq_true_iff] at h0
  unfold tD
  rw [if_pos h]
  refine ⟨rfl, fun r => ?_⟩
  show zf (addT D.1 (28 * D.2 + (4 * k + 1)) 1) r x = _
  rw [zf_add (by omega), Int.one_mul]
theorem tE_s {c : mCf} (hm : c.m ≤ 3) (x : Nat → Int) (k : Nat) (D : (Nat → Int) × Nat) : rS D (tE c k D) x ((decide (0 < k) && !c.Hg (2 * k - 1)) && (decide (k < c.m) && !c.Hg (2 * k))) (RTn c x (k - 1) - 32 * (c.E (k - 1) : Int) * x (4 * k + 1)) := by
  refine ⟨fun h => ?_, fun h => if_neg (by rw [h]; decide)⟩
  have h0 := h
  rw [Bool.and_eq_true, Bool.and_eq_true, Bool.and_eq_true, decide_eq_true_iff, decide_eq_true_iff] at h0
  unfold tE
  rw [if_pos h]
  refine ⟨rfl, fun r => ?_⟩
  show zf (addT (rTurnP c D.2 D.1 (k - 1)) (28 * D.2 + (4 * k + 1)) (-32 * c.E (k - 1))) r x = _
  rw [zf_add (by omega), rT_zf hm (by omega)]
  have e : -32 * (c.E (k - 1) : Int) * x (4 * k + 1) = -(32 * (c.E (k - 1) : Int) * x (4 * k + 1)) := by grind
  split <;> omega
theorem tF_s {c : mCf} (hm : c.m ≤ 3) (x : Nat → Int) {k : Nat} (hk : k ≤ c.m) (C : (Nat → Int) × Nat) : rA C (tF c k C) x ((if (decide (0 < k) && !c.Hg (2 * k - 1)) = true then RMo c x (k - 1) else 0) - (if (decide (k < c.m) && !c.Hg (2 * k)) = true then 4 * x (4 * k + 2) else 0)) := by
  refine ⟨rfl, fun r => ?_⟩
  unfold tF
  cases e1 : (decide (0 < k) && !c.Hg (2 * k - 1))
  · cases e2 : (decide (k < c.m) && !c.Hg (2 * k))
    · show zf C.1 r x = zf C.1 r x + if r = C.2 then 0 - 0 else 0
      split <;> omega
    · rw [Bool.and_eq_true, decide_eq_true_iff] at e2
      show zf (addT C.1 (28 * C.2 + (4 * k + 2)) (-4)) r x = zf C.1 r x + if r = C.2 then 0 - 4 * x (4 * k + 2) else 0
      rw [zf_add (by omega)]
      split <;> omega
  · rw [Bool.and_eq_true, decide_eq_true_iff] at e1
    cases e2 : (decide (k < c.m) && !c.Hg (2 * k))
    · show zf (rMomP c C.2 C.1 (k - 1) 1) r x = zf C.1 r x + if r = C.2 then RMo c x (k - 1) - 0 else 0
      rw [rO_zf hm (by omega)]
      split <;> omega
    · rw [Bool.and_eq_true, decide_eq_true_iff] at e2
      show zf (addT (rMomP c C.2 C.1 (k - 1) 1) (28 * C.2 + (4 * k + 2)) (-4)) r x = zf C.1 r x + if r = C.2 then RMo c x (k - 1) - 4 * x (4 * k + 2) else 0
      rw [zf_add (by omega), rO_zf hm (by omega)]
      split <;> omega
/-- what the lines of a node say -/
def nodeT (c : mCf) (x : Nat → Int) (k : Nat) : Prop :=
  (0 < k → k < c.m → RMv c x (k - 1) = 384 * (c.E (k - 1) : Int) * x (4 * k)) ∧ hV c x k = 0 ∧
  (0 < k → c.Hg (2 * k - 1) = true → RMo c x (k - 1) = 0) ∧ (k < c.m → c.Hg (2 * k) = true → x (4 * k + 2) = 0) ∧
  (c.Tu k = true → (0 < k → c.Hg (2 * k - 1) = false → RTn c x (k - 1) = 0) ∧ (k < c.m → c.Hg (2 * k) = false → x (4 * k + 1) = 0)) ∧
  (c.Tu k = false → (0 < k → c.Hg (2 * k - 1) = false → k < c.m → c.Hg (2 * k) = false → RTn c x (k - 1) = 32 * (c.E (k - 1) : Int) * x (4 * k + 1)) ∧
    (((decide (0 < k) && !c.Hg (2 * k - 1)) || (decide (k < c.m) && !c.Hg (2 * k))) = true → (if (decide (0 < k) && !c.Hg (2 * k - 1)) = true then RMo c x (k - 1) else 0) = (if (decide (k < c.m) && !c.Hg (2 * k)) = true then 4 * x (4 * k + 2) else 0)))
theorem node_s {c : mCf} (hm : c.m ≤ 3) (h1 : 1 ≤ c.m) (x : Nat → Int) {k : Nat} (hk : k ≤ c.m) {D : (Nat → Int) × Nat} (hf : fT D x) : fT (turnP c (heightP c D.1 D.2 k).1 (heightP c D.1 D.2 k).2 k) x ∧ (kT (turnP c (heightP c D.1 D.2 k).1 (heightP c D.1 D.2 k).2 k) x → kT D x ∧ nodeT c x k) := by
  have eh : heightP c D.1 D.2 k = hB c k (hA c k D) := height_eq c D.1 D.2 k
  rw [eh]
  have sA := hA_s hm x k D
  have sB := hB_s hm h1 x hk (hA c k D)
  have fA := sA.f hf
  have fB := sB.f fA
  generalize hG : hB c k (hA c k D) = H at *
  have et : turnP c H.1 H.2 k = if ((decide (0 < k) && !c.Hg (2 * k - 1)) || (decide (k < c.m) && !c.Hg (2 * k))) = false then tB c k (tA c k H) else if c.Tu k = true then tD c k (tC c k (tB c k (tA c k H))) else tF c k (tE c k (tB c k (tA c k H))) := turn_eq c H.1 H.2 k
  rw [et]
  have sC := tA_s hm x hk H
  have sD := tB_s hm x k (tA c k H)
  have fC := sC.f fB
  have fD := sD.f fC
  have base : kT (tB c k (tA c k H)) x → kT D x ∧ (0 < k → k < c.m → RMv c x (k - 1) = 384 * (c.E (k - 1) : Int) * x (4 * k)) ∧ hV c x k = 0 ∧ (0 < k → c.Hg (2 * k - 1) = true → RMo c x (k - 1) = 0) ∧ (k < c.m → c.Hg (2 * k) = true → x (4 * k + 2) = 0) := fun hk4 => by
    obtain ⟨k3, v4⟩ := sD.k fC hk4
    obtain ⟨k2, v3⟩ := sC.k fB k3
    obtain ⟨k1, v2⟩ := sB.k fA k2
    obtain ⟨k0, v1⟩ := sA.k hf k1
    refine ⟨k0, fun a b => ?_, v2, fun a b => v3 (by rw [decide_eq_true a, b]; rfl), fun a b => v4 (by rw [decide_eq_true a, b]; rfl)⟩
    have := v1 (decide_eq_true ⟨a, b⟩); omega
  by_cases e : ((decide (0 < k) && !c.Hg (2 * k - 1)) || (decide (k < c.m) && !c.Hg (2 * k))) = false
  · rw [if_pos e]
    refine ⟨fD, fun hk4 => ?_⟩
    obtain ⟨b0, b1, b2, b3, b4⟩ := base hk4
    have e' := Bool.or_eq_false_iff.mp e
    have no1 : 0 < k → c.Hg (2 * k - 1) = false → False := fun a b => by have := e'.1; rw [decide_eq_true a, b] at this; exact absurd this (by decide)
    have no2 : k < c.m → c.Hg (2 * k) = false → False := fun a b => by have := e'.2; rw [decide_eq_true a, b] at this; exact absurd this (by decide)
    exact ⟨b0, b1, b2, b3, b4, fun _ => ⟨fun a b => (no1 a b).elim, fun a b => (no2 a b).elim⟩, fun _ => ⟨fun a b => (no1 a b).elim, fun z => by rw [e] at z; exact absurd z (by decide)⟩⟩
  · rw [if_neg e]
    by_cases ht : c.Tu k = true
    · rw [if_pos ht]
      have sE := tC_s hm x hk (tB c k (tA c k H))
      have sF := tD_s hm x k (tC c k (tB c k (tA c k H)))
      have fE := sE.f fD
      refine ⟨sF.f fE, fun hk6 => ?_⟩
      obtain ⟨k5, v6⟩ := sF.k fE hk6
      obtain ⟨k4, v5⟩ := sE.k fD k5
      obtain ⟨b0, b1, b2, b3, b4⟩ := base k4
      exact ⟨b0, b1, b2, b3, b4, fun _ => ⟨fun a b => v5 (by rw [decide_eq_true a, b]; rfl), fun a b => v6 (by rw [decide_eq_true a, b]; rfl)⟩, fun z => by rw [ht] at z; exact absurd z (by decide)⟩
    · rw [if_neg ht]
      have sE := tE_s hm x k (tB c k (tA c k H))
      have sF := tF_s hm x hk (tE c k (tB c k (tA c k H)))
      have fE := sE.f fD
      refine ⟨sF.f fE, fun hk6 => ?_⟩
      obtain ⟨k5, v6⟩ := sF.k fE hk6
      obtain ⟨k4, v5⟩ := sE.k fD k5
      obtain ⟨b0, b1, b2, b3, b4⟩ := base k4
      refine ⟨b0, b1, b2, b3, b4, fun z => absurd z ht, fun _ => ⟨fun a b a' b' => ?_, fun _ => by omega⟩⟩
      have := v5 (by rw [decide_eq_true a, b, decide_eq_true a', b']; rfl)
      omega
theorem nodes_all {c : mCf} (hm : c.m ≤ 3) (h1 : 1 ≤ c.m) (x : Nat → Int) : ∀ t, t ≤ c.m + 1 → fT (stT c t) x ∧ (kT (stT c t) x → ∀ k, k < t → nodeT c x k)
  | 0, _ => ⟨fun r _ => zS_zero (fun j _ => Int.zero_mul _), fun _ k hk => by omega⟩
  | t + 1, ht => by
    obtain ⟨f, g⟩ := nodes_all hm h1 x t (by omega)
    obtain ⟨f', g'⟩ := node_s hm h1 x (k := t) (by omega) f
    refine ⟨f', fun hk k hkt => ?_⟩
    obtain ⟨k0, n⟩ := g' hk
    by_cases e : k = t
    · rw [e]; exact n
    · exact g k0 k (by omega)
theorem stT_rows {c : mCf} (h1 : 1 ≤ c.m) : (stT c (c.m + 1)).2 = 4 * c.m := by
  show (turnP c _ _ c.m).2 = _
  rw [turn_r h1 _ _ _ (Nat.le_refl _), height_r, stT_r h1 c.m (Nat.le_refl _), if_neg (by omega), if_neg (by omega)]
  omega
/-- a vector that the system takes to 0 -/
theorem nodes_of {c : mCf} (hm : c.m ≤ 3) (h1 : 1 ≤ c.m) {x : Nat → Int} (hx : ∀ r, r < 4 * c.m → zS 28 (fun j => stA c r j * x j) = 0) : ∀ k, k ≤ c.m → nodeT c x k := fun k hk =>
  (nodes_all hm h1 x (c.m + 1) (Nat.le_refl _)).2 (fun r hr => hx r (by rw [stT_rows h1] at hr; exact hr)) k (by omega)
end ZT1
