section ZU1
def eo (c : mCf) (b : Nat) : Int := if b = 0 then (c.E 1 : Int) * (c.E 2 : Int) else if b = 1 then (c.E 0 : Int) * (c.E 2 : Int) else (c.E 0 : Int) * (c.E 1 : Int)
def ePi (c : mCf) : Int := (c.E 0 : Int) * (c.E 1 : Int) * (c.E 2 : Int)
theorem eo_mul (c : mCf) {b : Nat} (hb : b < 3) : ePi c = eo c b * (c.E b : Int) := by
  unfold ePi eo
  rcases (by omega : b = 0 ∨ b = 1 ∨ b = 2) with rfl | rfl | rfl
  · rw [if_pos rfl]; grind
  · rw [if_neg (by decide), if_pos rfl]; grind
  · rw [if_neg (by decide), if_neg (by decide)]
theorem ePi_pos {c : mCf} (hok : okL c) : 0 < ePi c := by
  have h0 := (hok.2 0 (by omega)).2.1
  have h1 := (hok.2 1 (by omega)).2.1
  have h2 := (hok.2 2 (by omega)).2.1
  unfold ePi
  exact Int.mul_pos (Int.mul_pos (by omega) (by omega)) (by omega)
/-- loads' sums -/
theorem LD3 (c : mCf) (x : Nat → Int) (b : Nat) : LDs c x b 3 1 = -((c.L b : Int) * (c.L b : Int) * (c.L b : Int) * (27 * x (colP c b 1) + 8 * x (colP c b 2) + x (colP c b 3))) := by
  show -(1 * ((c.L b : Int) * 3 * ((c.L b : Int) * 3) * ((c.L b : Int) * 3))) * x (colP c b 1) + -(1 * ((c.L b : Int) * 2 * ((c.L b : Int) * 2) * ((c.L b : Int) * 2))) * x (colP c b 2) + -(1 * ((c.L b : Int) * 1 * ((c.L b : Int) * 1) * ((c.L b : Int) * 1))) * x (colP c b 3) = _
  grind
theorem LD2 (c : mCf) (x : Nat → Int) (b : Nat) : LDs c x b 2 1 = -((c.L b : Int) * (c.L b : Int) * (9 * x (colP c b 1) + 4 * x (colP c b 2) + x (colP c b 3))) := by
  show -(1 * ((c.L b : Int) * 3 * ((c.L b : Int) * 3))) * x (colP c b 1) + -(1 * ((c.L b : Int) * 2 * ((c.L b : Int) * 2))) * x (colP c b 2) + -(1 * ((c.L b : Int) * 1 * ((c.L b : Int) * 1))) * x (colP c b 3) = _
  grind
theorem LD1 (c : mCf) (x : Nat → Int) (b : Nat) : LDs c x b 1 (-1) = (c.L b : Int) * (3 * x (colP c b 1) + 2 * x (colP c b 2) + x (colP c b 3)) := by
  show -(-1 * ((c.L b : Int) * 3)) * x (colP c b 1) + -(-1 * ((c.L b : Int) * 2)) * x (colP c b 2) + -(-1 * ((c.L b : Int) * 1)) * x (colP c b 3) = _
  grind
theorem LD0 (c : mCf) (x : Nat → Int) (b : Nat) : LDs c x b 0 1 = -(x (colP c b 1) + x (colP c b 2) + x (colP c b 3)) := by
  show -(1 * 1) * x (colP c b 1) + -(1 * 1) * x (colP c b 2) + -(1 * 1) * x (colP c b 3) = _
  omega
/-- the moves and turns of a solution, times 384 times all stiffnesses -/
def uh (c : mCf) (x : Nat → Int) (k : Nat) : Int := if k < c.m then 384 * ePi c * x (4 * k) else eo c (c.m - 1) * RMv c x (c.m - 1)
def ut (c : mCf) (x : Nat → Int) (e : Nat) : Int := if e % 2 = 0 then (scP c c.m : Int) * (384 * ePi c * x (4 * (e / 2) + 1)) else (scP c c.m : Int) * (12 * eo c (e / 2) * RTn c x (e / 2))
def uv (c : mCf) (x : Nat → Int) (s : Nat) : Int := if s < 4 then (if s ≤ c.m then uh c x s else 0) else if s - 4 < 2 * c.m ∧ esP c (s - 4) = s then ut c x (s - 4) else 0
theorem uv_h {c : mCf} (hm : c.m ≤ 3) {x : Nat → Int} {k : Nat} (hk : k ≤ c.m) : uv c x k = uh c x k := by unfold uv; rw [if_pos (by omega), if_pos hk]
theorem uh_s {c : mCf} (hm : c.m ≤ 3) {x : Nat → Int} (hn : ∀ k, k ≤ c.m → nodeT c x k) {k : Nat} (hk : k < c.m) : uh c x k = 384 * ePi c * x (4 * k) ∧ uh c x (k+1) = eo c k * RMv c x k := by
  unfold uh
  refine ⟨if_pos hk, ?_⟩
  by_cases e : k + 1 < c.m
  · rw [if_pos e]
    have := (hn (k+1) (by omega)).1 (by omega) e
    rw [show k + 1 - 1 = k by omega] at this
    rw [this, eo_mul c (show k < 3 by omega)]; grind
  · rw [if_neg e, show c.m - 1 = k by omega]
theorem uv_es {c : mCf} (hm : c.m ≤ 3) {x : Nat → Int} (hn : ∀ k, k ≤ c.m → nodeT c x k) {e : Nat} (he : e < 2 * c.m) : uv c x (esP c e) = ut c x e := by
  by_cases h : e % 2 = 0 ∧ 0 < e ∧ c.Hg e = false ∧ c.Hg (e - 1) = false
  · have e1 : esP c e = 4 + e - 1 := by unfold esP; rw [if_pos h]
    have e2 : esP c (e - 1) = 4 + (e - 1) := by unfold esP; rw [if_neg (fun z => by omega)]
    unfold uv
    rw [e1, if_neg (by omega), if_pos ⟨by omega, by rw [show 4 + e - 1 - 4 = e - 1 by omega, e2]; omega⟩]
    obtain ⟨n1, n2, n3, n4, n5, n6⟩ := hn (e / 2) (by omega)
    rw [show 4 + e - 1 - 4 = e - 1 by omega]
    unfold ut
    rw [if_neg (by omega), if_pos h.1]
    congr 1
    have g1 : c.Hg (2 * (e / 2) - 1) = false := by rw [show 2 * (e / 2) - 1 = e - 1 by omega]; exact h.2.2.2
    have g2 : c.Hg (2 * (e / 2)) = false := by rw [show 2 * (e / 2) = e by omega]; exact h.2.2.1
    rw [show (e - 1) / 2 = e / 2 - 1 by omega]
    cases ht : c.Tu (e / 2)
    · rw [(n6 ht).1 (by omega) g1 (by omega) g2, eo_mul c (show e / 2 - 1 < 3 by omega)]; grind
    · rw [(n5 ht).1 (by omega) g1, (n5 ht).2 (by omega) g2]; omega
  · have e1 : esP c e = 4 + e := by unfold esP; rw [if_neg h]
    unfold uv
    rw [e1, if_neg (by omega), if_pos ⟨by omega, by rw [show 4 + e - 4 = e by omega, e1]⟩, show 4 + e - 4 = e by omega]
theorem ut_0 (c : mCf) (x : Nat → Int) (k : Nat) : ut c x (2 * k) = (scP c c.m : Int) * (384 * ePi c * x (4 * k + 1)) := by
  unfold ut; rw [if_pos (by omega), show 2 * k / 2 = k by omega]
theorem ut_1 (c : mCf) (x : Nat → Int) (k : Nat) : ut c x (2 * k + 1) = (scP c c.m : Int) * (12 * eo c k * RTn c x k) := by
  unfold ut; rw [if_neg (by omega), show (2 * k + 1) / 2 = k by omega]
/-- the four numbers of a beam -/
theorem uv_beam {c : mCf} (hok : okL c) {x : Nat → Int} (hn : ∀ k, k ≤ c.m → nodeT c x k) {k : Nat} (hk : k < c.m) : uv c x k = 384 * ePi c * x (4 * k) ∧ uv c x (k+1) = eo c k * RMv c x k ∧ uv c x (esP c (2 * k)) = (scP c c.m : Int) * (384 * ePi c * x (4 * k + 1)) ∧ uv c x (esP c (2 * k + 1)) = (scP c c.m : Int) * (12 * eo c k * RTn c x k) := by
  have hm := hok.1
  rw [uv_h hm (by omega), uv_h hm (by omega), uv_es hm hn (by omega), uv_es hm hn (by omega), ut_0, ut_1]
  exact ⟨(uh_s hm hn hk).1, (uh_s hm hn hk).2, rfl, rfl⟩
theorem uF_0 {c : mCf} (hok : okL c) {x : Nat → Int} (hn : ∀ k, k ≤ c.m → nodeT c x k) {k : Nat} (hk : k < c.m) : bF c (uv c x) k 0 = -(ePi c * ((scP c c.m : Int) * (scP c c.m : Int) * (scP c c.m : Int)) * (384 * x (4 * k + 3) + 6 * (54 * x (colP c k 1) + 32 * x (colP c k 2) + 10 * x (colP c k 3)))) := by
  obtain ⟨u0, u2, u1, u3⟩ := uv_beam hok hn hk
  rw [bF_0, u0, u1, u2, u3]
  unfold RMv RTn
  rw [LD3, LD2, rtL hok hk, eo_mul c (show k < 3 by have := hok.1; omega)]
  grind
theorem uF_1 {c : mCf} (hok : okL c) {x : Nat → Int} (hn : ∀ k, k ≤ c.m → nodeT c x k) {k : Nat} (hk : k < c.m) : bF c (uv c x) k 1 = ePi c * ((scP c c.m : Int) * (scP c c.m : Int)) * (384 * x (4 * k + 2) - 6 * (c.L k : Int) * (9 * x (colP c k 1) + 8 * x (colP c k 2) + 3 * x (colP c k 3))) := by
  obtain ⟨u0, u2, u1, u3⟩ := uv_beam hok hn hk
  rw [bF_1, u0, u1, u2, u3]
  unfold RMv RTn
  rw [LD3, LD2, rtL hok hk, eo_mul c (show k < 3 by have := hok.1; omega)]
  grind
theorem uF_3 {c : mCf} (hok : okL c) {x : Nat → Int} (hn : ∀ k, k ≤ c.m → nodeT c x k) {k : Nat} (hk : k < c.m) : bF c (uv c x) k 3 = -(ePi c * ((scP c c.m : Int) * (scP c c.m : Int)) * (96 * RMo c x k - 6 * (c.L k : Int) * (3 * x (colP c k 1) + 8 * x (colP c k 2) + 9 * x (colP c k 3)))) := by
  obtain ⟨u0, u2, u1, u3⟩ := uv_beam hok hn hk
  rw [bF_3, u0, u1, u2, u3]
  unfold RMv RTn RMo
  rw [LD3, LD2, LD1, rtL hok hk, eo_mul c (show k < 3 by have := hok.1; omega)]
  grind
/-- where a load's shape stands -/
theorem addT_if (f : Nat → Int) (i : Nat) (z : Int) (j : Nat) : addT f i z j = f j + if j = i then z else 0 := by
  unfold addT
  split
  · rfl
  · rw [Int.add_zero]
theorem shP_if (c : mCf) (k q s : Nat) : shP c k q (fun _ => 0) s = (if s = k then ((scP c c.m * (4 - q) * (4 - q) * (4 + 2 * q) : Nat) : Int) else 0) + (if s = esP c (2 * k) then ((c.L k * q * (4 - q) * (4 - q) : Nat) : Int) else 0) + (if s = k + 1 then ((scP c c.m * q * q * (12 - 2 * q) : Nat) : Int) else 0) + (if s = esP c (2 * k + 1) then -((c.L k * q * q * (4 - q) : Nat) : Int) else 0) := by
  unfold shP
  rw [addT_if, addT_if, addT_if, addT_if]
  omega
/-- all loads together, as the frame sees them -/
def shS (c : mCf) (x : Nat → Int) (s : Nat) : Int := zS c.m (fun b => zS 5 (fun p => x (colP c b p) * shP c b p (fun _ => 0) s))
theorem zS_5 (f : Nat → Int) : zS 5 f = f 0 + f 1 + f 2 + f 3 + f 4 := by simp only [zS]; omega
theorem ite_mul' {P : Prop} [Decidable P] (a z : Int) : a * (if P then z else 0) = if P then a * z else 0 := by split <;> simp
theorem ite_add3 {P : Prop} [Decidable P] (a b d e f : Int) : (if P then a else 0) + (if P then b else 0) + (if P then d else 0) + (if P then e else 0) + (if P then f else 0) = if P then a + b + d + e + f else 0 := by split <;> omega
theorem shS_b (c : mCf) (x : Nat → Int) (k s : Nat) : zS 5 (fun p => x (colP c k p) * shP c k p (fun _ => 0) s) = (if s = k then (scP c c.m : Int) * (64 * x (colP c k 0) + 54 * x (colP c k 1) + 32 * x (colP c k 2) + 10 * x (colP c k 3)) else 0) + (if s = esP c (2 * k) then (c.L k : Int) * (9 * x (colP c k 1) + 8 * x (colP c k 2) + 3 * x (colP c k 3)) else 0) + (if s = k + 1 then (scP c c.m : Int) * (10 * x (colP c k 1) + 32 * x (colP c k 2) + 54 * x (colP c k 3) + 64 * x (colP c k 4)) else 0) + (if s = esP c (2 * k + 1) then -((c.L k : Int) * (3 * x (colP c k 1) + 8 * x (colP c k 2) + 9 * x (colP c k 3))) else 0) := by
  have e : ∀ p, p < 5 → x (colP c k p) * shP c k p (fun _ => 0) s = (if s = k then x (colP c k p) * ((scP c c.m * (4 - p) * (4 - p) * (4 + 2 * p) : Nat) : Int) else 0) + (if s = esP c (2 * k) then x (colP c k p) * ((c.L k * p * (4 - p) * (4 - p) : Nat) : Int) else 0) + (if s = k + 1 then x (colP c k p) * ((scP c c.m * p * p * (12 - 2 * p) : Nat) : Int) else 0) + (if s = esP c (2 * k + 1) then x (colP c k p) * -((c.L k * p * p * (4 - p) : Nat) : Int) else 0) := fun p _ => by
    rw [shP_if, Int.mul_add, Int.mul_add, Int.mul_add, ite_mul', ite_mul', ite_mul', ite_mul']
  rw [zS_congr e, zS_add, zS_add, zS_add]
  congr 1
  · congr 1
    · congr 1
      · rw [zS_5, ite_add3]
        split
        · simp only [Int.natCast_mul]
          show x (colP c k 0) * ((scP c c.m : Int) * 4 * 4 * 4) + x (colP c k 1) * ((scP c c.m : Int) * 3 * 3 * 6) + x (colP c k 2) * ((scP c c.m : Int) * 2 * 2 * 8) + x (colP c k 3) * ((scP c c.m : Int) * 1 * 1 * 10) + x (colP c k 4) * ((scP c c.m : Int) * 0 * 0 * 12) = _
          grind
        · rfl
      · rw [zS_5, ite_add3]
        split
        · simp only [Int.natCast_mul]
          show x (colP c k 0) * ((c.L k : Int) * 0 * 4 * 4) + x (colP c k 1) * ((c.L k : Int) * 1 * 3 * 3) + x (colP c k 2) * ((c.L k : Int) * 2 * 2 * 2) + x (colP c k 3) * ((c.L k : Int) * 3 * 1 * 1) + x (colP c k 4) * ((c.L k : Int) * 4 * 0 * 0) = _
          grind
        · rfl
    · rw [zS_5, ite_add3]
      split
      · simp only [Int.natCast_mul]
        show x (colP c k 0) * ((scP c c.m : Int) * 0 * 0 * 12) + x (colP c k 1) * ((scP c c.m : Int) * 1 * 1 * 10) + x (colP c k 2) * ((scP c c.m : Int) * 2 * 2 * 8) + x (colP c k 3) * ((scP c c.m : Int) * 3 * 3 * 6) + x (colP c k 4) * ((scP c c.m : Int) * 4 * 4 * 4) = _
        grind
      · rfl
  · rw [zS_5, ite_add3]
    split
    · simp only [Int.natCast_mul]
      show x (colP c k 0) * -((c.L k : Int) * 0 * 0 * 4) + x (colP c k 1) * -((c.L k : Int) * 1 * 1 * 3) + x (colP c k 2) * -((c.L k : Int) * 2 * 2 * 2) + x (colP c k 3) * -((c.L k : Int) * 3 * 3 * 1) + x (colP c k 4) * -((c.L k : Int) * 4 * 4 * 0) = _
      grind
    · rfl
/-- what is left at a slot: shears and moments -/
def vL (c : mCf) (x : Nat → Int) (k : Nat) : Int := x (4 * k + 3) - x (colP c k 0)
def vR (c : mCf) (x : Nat → Int) (k : Nat) : Int := x (4 * k + 3) + x (colP c k 1) + x (colP c k 2) + x (colP c k 3) + x (colP c k 4)
def mE (c : mCf) (x : Nat → Int) (e : Nat) : Int := if e % 2 = 0 then 4 * x (4 * (e / 2) + 2) else -RMo c x (e / 2)
theorem zS_pair (f : Nat → Int) : ∀ m, zS (2 * m) f = zS m (fun k => f (2 * k) + f (2 * k + 1))
  | 0 => rfl
  | m + 1 => by rw [show 2 * (m + 1) = 2 * m + 1 + 1 by omega, zS_s, zS_s, zS_pair f m, zS_s]; omega
theorem zS_neigh {m r : Nat} (A B : Nat → Int) : zS m (fun k => (if r = k then A k else 0) + (if r = k + 1 then B k else 0)) = (if r < m then A r else 0) + (if 0 < r ∧ r ≤ m then B (r - 1) else 0) := by
  rw [zS_add]
  congr 1
  · by_cases e : r < m
    · rw [if_pos e, zS_one e (fun k _ h => if_neg (Ne.symm h)), if_pos rfl]
    · rw [if_neg e, zS_zero (fun k hk => if_neg (by omega))]
  · by_cases e : 0 < r ∧ r ≤ m
    · rw [if_pos e, zS_one (p := r - 1) (by omega) (fun k _ h => if_neg (by omega)), if_pos (by omega)]
    · rw [if_neg e, zS_zero (fun k hk => if_neg (by omega))]
theorem uv_res {c : mCf} (hok : okL c) {x : Nat → Int} (hn : ∀ k, k ≤ c.m → nodeT c x k) {r : Nat} (hr : r < 10) : zS 10 (fun j => zK c r j * uv c x j) = -(6 * ePi c * ((scP c c.m : Int) * (scP c c.m : Int)) * shS c x r) + 384 * ePi c * ((scP c c.m : Int) * (scP c c.m : Int) * (scP c c.m : Int)) * ((if r < c.m then -vL c x r else 0) + (if 0 < r ∧ r ≤ c.m then vR c x (r - 1) else 0)) + 96 * ePi c * ((scP c c.m : Int) * (scP c c.m : Int)) * zS (2 * c.m) (fun e => if r = esP c e then mE c x e else 0) := by
  have hm := hok.1
  rw [zK_row hm _ hr, zS_pair, ← zS_neigh (m := c.m) (r := r) (fun k => -vL c x k) (fun k => vR c x k)]
  unfold shS
  rw [show ∀ a b : Int, -(a * b) = -a * b from fun a b => (Int.neg_mul a b).symm, ← zS_mul, ← zS_mul, ← zS_mul, ← zS_add, ← zS_add]
  refine zS_congr (fun k hk => ?_)
  rw [shS_b]
  have e0 : coP c k 0 = k := rfl
  have e1 : coP c k 1 = esP c (2 * k) := rfl
  have e2 : coP c k 2 = k + 1 := rfl
  have e3 : coP c k 3 = esP c (2 * k + 1) := rfl
  have z4 : zS 4 (fun a => if r = coP c k a then bF c (uv c x) k a else 0) = (if r = k then bF c (uv c x) k 0 else 0) + (if r = esP c (2 * k) then bF c (uv c x) k 1 else 0) + (if r = k + 1 then bF c (uv c x) k 2 else 0) + (if r = esP c (2 * k + 1) then bF c (uv c x) k 3 else 0) := by
    simp only [zS]; rw [e0, e1, e2, e3]; omega
  rw [z4, bF_2, uF_0 hok hn hk, uF_1 hok hn hk, uF_3 hok hn hk]
  have m0 : mE c x (2 * k) = 4 * x (4 * k + 2) := by unfold mE; rw [if_pos (by omega), show 2 * k / 2 = k by omega]
  have m1 : mE c x (2 * k + 1) = -RMo c x k := by unfold mE; rw [if_neg (by omega), show (2 * k + 1) / 2 = k by omega]
  rw [m0, m1]
  unfold vL vR
  generalize (scP c c.m : Int) = s
  generalize ePi c = P
  generalize (c.L k : Int) = L
  generalize RMo c x k = R
  generalize x (4 * k + 3) = V
  generalize x (4 * k + 2) = M
  generalize x (colP c k 0) = y0
  generalize x (colP c k 1) = y1
  generalize x (colP c k 2) = y2
  generalize x (colP c k 3) = y3
  generalize x (colP c k 4) = y4
  by_cases g0 : r = k
  · have g2 : ¬ r = k + 1 := by omega
    have g1 : ¬ r = esP c (2 * k) := by have := esP_lt (c := c) (e := 2 * k) (by omega); omega
    have g3 : ¬ r = esP c (2 * k + 1) := by have := esP_lt (c := c) (e := 2 * k + 1) (by omega); omega
    rw [if_pos g0, if_neg g1, if_neg g2, if_neg g3, if_pos g0, if_neg g1, if_neg g2, if_neg g3, if_pos g0, if_neg g2, if_neg g1, if_neg g3]
    grind
  · rw [if_neg g0, if_neg g0, if_neg g0]
    by_cases g2 : r = k + 1
    · have g1 : ¬ r = esP c (2 * k) := by have := esP_lt (c := c) (e := 2 * k) (by omega); omega
      have g3 : ¬ r = esP c (2 * k + 1) := by have := esP_lt (c := c) (e := 2 * k + 1) (by omega); omega
      rw [if_neg g1, if_pos g2, if_neg g3, if_neg g1, if_pos g2, if_neg g3, if_pos g2, if_neg g1, if_neg g3]
      grind
    · rw [if_neg g2, if_neg g2, if_neg g2]
      by_cases g1 : r = esP c (2 * k)
      · have g3 : ¬ r = esP c (2 * k + 1) := by
          rw [esP_odd, g1]; unfold esP; split <;> omega
        rw [if_pos g1, if_neg g3, if_pos g1, if_neg g3, if_pos g1, if_neg g3]
        grind
      · rw [if_neg g1, if_neg g1, if_neg g1]
        by_cases g3 : r = esP c (2 * k + 1)
        · rw [if_pos g3, if_pos g3, if_pos g3]
          grind
        · rw [if_neg g3, if_neg g3, if_neg g3]
          grind
/-- at a free slot nothing is left but the loads -/
theorem uv_K {c : mCf} (hok : okL c) (h1 : 1 ≤ c.m) {x : Nat → Int} (hn : ∀ k, k ≤ c.m → nodeT c x k) {r : Nat} (hr : r < 10) (hf : frP c r = true) : zS 10 (fun j => zK c r j * uv c x j) = -(6 * ePi c * ((scP c c.m : Int) * (scP c c.m : Int)) * shS c x r) := by
  have hm := hok.1
  rw [uv_res hok hn hr]
  have q1 : (if r < c.m then -vL c x r else 0) + (if 0 < r ∧ r ≤ c.m then vR c x (r - 1) else 0) = 0 := by
    by_cases h4 : r < 4
    · rw [frP_lo h4] at hf
      obtain ⟨a1, a2, a3⟩ := of_decide_eq_true hf
      have hv := (hn r a1).2.1
      unfold hV at hv
      rw [if_neg (by rw [a3]; decide)] at hv
      unfold vL vR
      by_cases e0 : 0 < r
      · rw [if_pos e0, LD0] at hv
        rw [if_pos (show 0 < r ∧ r ≤ c.m from ⟨e0, a1⟩), show 4 * (r - 1) + 3 = 4 * r - 1 by omega]
        by_cases e : r < c.m
        · rw [if_pos e] at hv; rw [if_pos e]; omega
        · rw [if_neg e] at hv; rw [if_neg e]; omega
      · rw [if_neg e0, if_pos (show r < c.m by omega)] at hv
        rw [if_neg (show ¬ (0 < r ∧ r ≤ c.m) from fun z => e0 z.1), if_pos (show r < c.m by omega)]; omega
    · rw [if_neg (by omega), if_neg (by omega)]; rfl
  have q2 : zS (2 * c.m) (fun e => if r = esP c e then mE c x e else 0) = 0 := by
    by_cases h4 : r < 4
    · refine zS_zero (fun e he => if_neg ?_)
      have := esP_lt (c := c) (e := e) (by omega); omega
    · have hex : ∃ e, e < 2 * c.m ∧ esP c e = r := Classical.byContradiction (fun hno => by
        have : frP c r = false := frS_hi (by omega) _ (fun e he hs => hno ⟨e, he, hs⟩)
        rw [hf] at this; exact absurd this (by decide))
      -- the end that the slot is named by
      have hoth : ∀ e, e < 2 * c.m → esP c e = r → e = r - 4 ∨ (e = r - 3 ∧ e % 2 = 0 ∧ c.Hg e = false ∧ c.Hg (e - 1) = false) := fun e he hs => by
        unfold esP at hs
        by_cases g : e % 2 = 0 ∧ 0 < e ∧ c.Hg e = false ∧ c.Hg (e - 1) = false
        · rw [if_pos g] at hs; exact Or.inr ⟨by omega, g.1, g.2.2⟩
        · rw [if_neg g] at hs; exact Or.inl (by omega)
      have hodd : ∀ e, e % 2 = 1 → esP c e = 4 + e := fun e g => by unfold esP; rw [if_neg (fun z => by omega)]
      rcases Nat.mod_two_eq_zero_or_one (r - 4) with g | g
      · -- a left end by itself
        obtain ⟨e, he, hs⟩ := hex
        have ee : e = r - 4 := by rcases hoth e he hs with h | h <;> omega
        rw [zS_one he (fun e' he' hne => if_neg (fun z => by rcases hoth e' he' z.symm with h | h <;> omega)), if_pos hs.symm]
        have me : mE c x e = 4 * x (4 * (e / 2) + 2) := by unfold mE; rw [if_pos (by omega)]
        rw [me]
        obtain ⟨n1, n2, n3, n4, n5, n6⟩ := hn (e / 2) (by omega)
        have eo2 : 2 * (e / 2) = e := by omega
        rw [eo2] at n4 n5 n6
        cases hh : c.Hg e
        · rw [← hs, frP_es he, hh, Bool.false_or, Bool.not_eq_true', show (e + 1) / 2 = e / 2 by omega] at hf
          have hl : (decide (0 < e / 2) && !c.Hg (e - 1)) = false := by
            by_cases h0 : 0 < e / 2
            · cases h9 : c.Hg (e - 1)
              · exfalso
                have : esP c e = 4 + e - 1 := by unfold esP; rw [if_pos ⟨by omega, by omega, hh, h9⟩]
                omega
              · rw [Bool.not_true, Bool.and_false]
            · rw [decide_eq_false h0]; rfl
          have hrt : (decide (e / 2 < c.m) && !c.Hg e) = true := by rw [decide_eq_true (by omega), hh]; rfl
          have := (n6 hf).2 (by rw [hrt, Bool.or_true])
          rw [hl, hrt, if_neg (by decide), if_pos rfl] at this
          omega
        · rw [n4 (by omega) hh]; rfl
      · -- a right end, perhaps with the left end behind it
        have h0 : r - 4 < 2 * c.m := by
          obtain ⟨e, he, hs⟩ := hex
          rcases hoth e he hs with h | h <;> omega
        have s0 : r = esP c (r - 4) := by rw [hodd _ g]; omega
        have hfn := hf
        rw [s0, frP_es h0] at hfn
        obtain ⟨n1, n2, n3, n4, n5, n6⟩ := hn ((r - 4 + 1) / 2) (by omega)
        have eA : 2 * ((r - 4 + 1) / 2) - 1 = r - 4 := by omega
        have eB : 2 * ((r - 4 + 1) / 2) = r - 3 := by omega
        have eC : (r - 4 + 1) / 2 - 1 = (r - 4) / 2 := by omega
        rw [eA, eC] at n3 n5 n6
        rw [eB] at n5 n6 n4
        have me0 : mE c x (r - 4) = -RMo c x ((r - 4) / 2) := by unfold mE; rw [if_neg (by omega)]
        cases hh : c.Hg (r - 4)
        · rw [hh, Bool.false_or, Bool.not_eq_true'] at hfn
          have hl : (decide (0 < (r - 4 + 1) / 2) && !c.Hg (r - 4)) = true := by rw [decide_eq_true (by omega), hh]; rfl
          have key := (n6 hfn).2 (by rw [hl, Bool.true_or])
          rw [hl, if_pos rfl] at key
          by_cases hb : r - 3 < 2 * c.m ∧ c.Hg (r - 3) = false
          · have s1 : r = esP c (r - 3) := by
              unfold esP
              rw [if_pos ⟨by omega, by omega, hb.2, by rw [show r - 3 - 1 = r - 4 by omega]; exact hh⟩]
              omega
            have e34 : r - 4 + 1 = r - 3 := by omega
            rw [zS_two (p := r - 4) (by omega) (fun e' he' h5 h6 => if_neg (fun z => by rcases hoth e' he' z.symm with h | h <;> omega)), if_pos s0, e34, if_pos s1, me0]
            have me1 : mE c x (r - 3) = 4 * x (4 * ((r - 3) / 2) + 2) := by unfold mE; rw [if_pos (by omega)]
            have hrt : (decide ((r - 4 + 1) / 2 < c.m) && !c.Hg (r - 3)) = true := by rw [decide_eq_true (by omega), hb.2]; rfl
            rw [hrt, if_pos rfl, e34] at key
            rw [me1]; omega
          · rw [zS_one h0 (fun e' he' hne => if_neg (fun z => by
              rcases hoth e' he' z.symm with h | h
              · omega
              · exact hb ⟨by omega, by rw [← h.1]; exact h.2.2.1⟩)), if_pos s0, me0]
            have hrt : (decide ((r - 4 + 1) / 2 < c.m) && !c.Hg (r - 3)) = false := by
              by_cases h7 : (r - 4 + 1) / 2 < c.m
              · cases h8 : c.Hg (r - 3)
                · exact absurd ⟨by omega, h8⟩ hb
                · rw [Bool.not_true, Bool.and_false]
              · rw [decide_eq_false h7]; rfl
            rw [hrt, if_neg (by decide)] at key
            rw [key]; rfl
        · rw [zS_one h0 (fun e' he' hne => if_neg (fun z => by
            rcases hoth e' he' z.symm with h | h
            · omega
            · have : e' - 1 = r - 4 := by omega
              rw [this, hh] at h; exact absurd h.2.2.2 (by decide))), if_pos s0, me0, n3 (by omega) hh]; rfl
  rw [q1, q2, Int.mul_zero, Int.mul_zero]
  omega
/-- at a slot that is not free -/
theorem uv_nf {c : mCf} (hok : okL c) (h1 : 1 ≤ c.m) {x : Nat → Int} (hn : ∀ k, k ≤ c.m → nodeT c x k) {s : Nat} (hf : frP c s = false) : uv c x s = if s ≤ c.m then -(384 * ePi c * c.Se s * x (9 * c.m)) else 0 := by
  have hm := hok.1
  by_cases h4 : s < 4
  · by_cases hk : s ≤ c.m
    · rw [uv_h hm hk, if_pos hk]
      rw [frP_lo h4] at hf
      have hHi : c.Hi s = true := by
        cases e : c.Hi s
        · exact absurd ⟨hk, h4, e⟩ (of_decide_eq_false hf)
        · rfl
      have hv := (hn s hk).2.1
      unfold hV at hv
      rw [if_pos hHi] at hv
      unfold uh
      by_cases e : s < c.m
      · rw [if_pos e] at hv
        rw [if_pos e, show x (4 * s) = -(c.Se s * x (9 * c.m)) by omega]; grind
      · rw [if_neg e] at hv
        have es : s = c.m := by omega
        rw [if_neg e]
        rw [es] at hv
        rw [es, show RMv c x (c.m - 1) = -(384 * (c.E (c.m - 1) : Int) * c.Se c.m * x (9 * c.m)) by omega, eo_mul c (show c.m - 1 < 3 by omega)]; grind
    · rw [if_neg hk]; unfold uv; rw [if_pos h4, if_neg hk]
  · rw [if_neg (by omega)]
    by_cases h5 : s - 4 < 2 * c.m ∧ esP c (s - 4) = s
    · have hf' := hf
      rw [← h5.2, frP_es h5.1, Bool.or_eq_false_iff, Bool.not_eq_false'] at hf'
      rw [← h5.2, uv_es hm hn h5.1]
      unfold ut
      rcases Nat.mod_two_eq_zero_or_one (s - 4) with g | g
      · rw [if_pos g]
        have n5 := ((hn ((s - 4) / 2) (by omega)).2.2.2.2.1 (by rw [show (s - 4) / 2 = (s - 4 + 1) / 2 by omega]; exact hf'.2)).2 (by omega) (by rw [show 2 * ((s - 4) / 2) = s - 4 by omega]; exact hf'.1)
        rw [n5]; omega
      · rw [if_neg (by omega)]
        have n5 := ((hn ((s - 4 + 1) / 2) (by omega)).2.2.2.2.1 hf'.2).1 (by omega) (by rw [show 2 * ((s - 4 + 1) / 2) - 1 = s - 4 by omega]; exact hf'.1)
        rw [show (s - 4 + 1) / 2 - 1 = (s - 4) / 2 by omega] at n5
        rw [n5]; omega
    · unfold uv; rw [if_neg h4, if_neg h5]
end ZU1
