section ZV1
theorem zS_ext {n N : Nat} {f : Nat → Int} (h : n ≤ N) (h0 : ∀ i, n ≤ i → i < N → f i = 0) : zS N f = zS n f := by
  obtain ⟨d, rfl⟩ : ∃ d, N = n + d := ⟨N - n, by omega⟩
  clear h
  induction d with
  | zero => rfl
  | succ d ih =>
    rw [← Nat.add_assoc, zS_s, ih (fun i a b => h0 i a (by omega)), h0 (n + d) (by omega) (by omega)]; omega
theorem colP_ge (c : mCf) (b p : Nat) : 4 * c.m ≤ colP c b p := by unfold colP; omega
/-- where the row is not loose, only 0 solves the system without loads -/
theorem st_reg {c : mCf} (hok : okL c) (h1 : 1 ≤ c.m) (hl : looseB c = false) : zReg (stA c) (4 * c.m) := by
  have hm := hok.1
  intro X hX
  have hx : ∀ r, r < 4 * c.m → zS 28 (fun j => stA c r j * (fun j => if j < 4 * c.m then X j else 0) j) = 0 := fun r hr => by
    rw [zS_ext (n := 4 * c.m) (by omega) (fun i a b => by show _ * (if i < 4 * c.m then X i else 0) = 0; rw [if_neg (by omega), Int.mul_zero])]
    rw [zS_congr (g := fun j => stA c r j * X j) (fun j hj => by show _ * (if j < 4 * c.m then X j else 0) = _; rw [if_pos hj])]
    exact hX r hr
  have hn := nodes_of hm h1 hx
  have hcol : ∀ b p, (fun j => if j < 4 * c.m then X j else 0) (colP c b p) = 0 := fun b p => by
    show (if colP c b p < 4 * c.m then _ else (0 : Int)) = 0
    rw [if_neg (by have := colP_ge c b p; omega)]
  have h9 : (fun j => if j < 4 * c.m then X j else 0) (9 * c.m) = 0 := by
    show (if 9 * c.m < 4 * c.m then _ else (0 : Int)) = 0
    rw [if_neg (by omega)]
  have hXx : ∀ j, j < 4 * c.m → (fun j => if j < 4 * c.m then X j else 0) j = X j := fun j hj => by
    show (if j < 4 * c.m then X j else 0) = X j
    rw [if_pos hj]
  generalize (fun j => if j < 4 * c.m then X j else 0) = x at *
  have hker : zKer (zK c) (frP c) (uv c x) := by
    refine ⟨fun l _ hf => ?_, fun r hr hf => ?_⟩
    · rw [uv_nf hok h1 hn hf, h9]
      split <;> omega
    · rw [uv_K hok h1 hn hr hf]
      have : shS c x r = 0 := zS_zero (fun b _ => zS_zero (fun p _ => by rw [hcol, Int.zero_mul]))
      rw [this]; omega
  have hz := ker_triv hok h1 hl _ hker
  have hP := ePi_pos hok
  have hsc := (scP_ok hok c.m hm).1
  have main : ∀ k, k < c.m → x (4 * k) = 0 ∧ x (4 * k + 1) = 0 ∧ x (4 * k + 2) = 0 ∧ x (4 * k + 3) = 0 := fun k hk => by
    obtain ⟨u0, u2, u1, u3⟩ := uv_beam hok hn hk
    have l1 := (esP_lt (c := c) (e := 2 * k) (by omega)).2
    have l3 := (esP_lt (c := c) (e := 2 * k + 1) (by omega)).2
    rw [hz _ (by omega)] at u0 u2
    rw [hz _ l1] at u1
    rw [hz _ l3] at u3
    have hE := (hok.2 k (by omega)).2.1
    have hL := (hok.2 k (by omega)).1.1
    have heo : eo c k ≠ 0 := fun e => by
      have := eo_mul c (show k < 3 by omega)
      rw [e, Int.zero_mul] at this; omega
    have w0 : x (4 * k) = 0 := by
      rcases Int.mul_eq_zero.mp u0.symm with e | e
      · omega
      · exact e
    have t0 : x (4 * k + 1) = 0 := by
      rcases Int.mul_eq_zero.mp u1.symm with e | e
      · omega
      · rcases Int.mul_eq_zero.mp e with f | f
        · omega
        · exact f
    have r2 : RMv c x k = 0 := by
      rcases Int.mul_eq_zero.mp u2.symm with e | e
      · exact absurd e heo
      · exact e
    have r3 : RTn c x k = 0 := by
      rcases Int.mul_eq_zero.mp u3.symm with e | e
      · omega
      · rcases Int.mul_eq_zero.mp e with f | f
        · rcases Int.mul_eq_zero.mp f with g | g
          · omega
          · exact absurd g heo
        · exact f
    unfold RMv at r2
    unfold RTn at r3
    rw [LD3, hcol, hcol, hcol, w0, t0] at r2
    rw [LD2, hcol, hcol, hcol, t0] at r3
    have hL0 : (c.L k : Int) ≠ 0 := by omega
    have a1 : (c.L k : Int) * (c.L k : Int) * (3 * x (4 * k + 2) + (c.L k : Int) * x (4 * k + 3)) = 0 := by grind
    have a2 : (c.L k : Int) * (2 * x (4 * k + 2) + (c.L k : Int) * x (4 * k + 3)) = 0 := by grind
    have b1 : 3 * x (4 * k + 2) + (c.L k : Int) * x (4 * k + 3) = 0 := by
      rcases Int.mul_eq_zero.mp a1 with e | e
      · exact absurd e (Int.mul_ne_zero hL0 hL0)
      · exact e
    have b2 : 2 * x (4 * k + 2) + (c.L k : Int) * x (4 * k + 3) = 0 := by
      rcases Int.mul_eq_zero.mp a2 with e | e
      · exact absurd e hL0
      · exact e
    have m0 : x (4 * k + 2) = 0 := by omega
    refine ⟨w0, t0, m0, ?_⟩
    rw [m0] at b1
    have : (c.L k : Int) * x (4 * k + 3) = 0 := by omega
    rcases Int.mul_eq_zero.mp this with e | e
    · exact absurd e hL0
    · exact e
  intro j hj
  rw [← hXx j hj]
  have := main (j / 4) (by omega)
  rcases (by omega : j = 4 * (j / 4) ∨ j = 4 * (j / 4) + 1 ∨ j = 4 * (j / 4) + 2 ∨ j = 4 * (j / 4) + 3) with e | e | e | e <;> rw [e]
  · exact this.1
  · exact this.2.1
  · exact this.2.2.1
  · exact this.2.2.2
theorem okCf.l {c : mCf} (h : okCf c) : okL c := ⟨h.2.1, fun k hk => ⟨h.2.2.1 k hk, h.2.2.2.1 k hk⟩⟩
theorem slvOk_all {c : mCf} (h : okCf c) : slvOk c := by
  refine ⟨rigOk_all h.l h.1, fun hl => gj_ok (by have := h.1; omega) (by have := h.2.1; omega) (st_reg h.l h.1 hl) (fun i j _ _ => ?_)⟩
  have hb := stT_bd h (c.m + 1) (Nat.le_refl _) (28 * i + j)
  have hm := h.2.1
  have e : ((c.m + 1 : Nat) : Int) * 20000000 ≤ 80000000 := by omega
  show ((stT c (c.m + 1)).1 (28 * i + j)).natAbs ≤ 80000000
  omega
/-- the solution of a column, with the column -/
def xs (c : mCf) (y j : Nat) : Int := if j < 4 * c.m then solA c j y else if j = y then -solD c else 0
theorem xs_lo {c : mCf} {y j : Nat} (h : j < 4 * c.m) : xs c y j = solA c j y := if_pos h
theorem xs_n {c : mCf} {y j : Nat} (h : 4 * c.m ≤ j) : xs c y j = if j = y then -solD c else 0 := if_neg (by omega)
theorem solD_ne {c : mCf} (hok : okL c) (h1 : 1 ≤ c.m) (hl : looseB c = false) : solD c ≠ 0 := (gj_sol (w := 9 * c.m) (by omega) (st_reg hok h1 hl)).1
theorem xs_node {c : mCf} (hok : okL c) (h1 : 1 ≤ c.m) (hl : looseB c = false) {y : Nat} (hy : 4 * c.m ≤ y) (hy2 : y ≤ 9 * c.m) : ∀ k, k ≤ c.m → nodeT c (xs c y) k := by
  have hm := hok.1
  refine nodes_of hm h1 (fun r hr => ?_)
  have hs := (gj_sol (w := 9 * c.m) (by omega) (st_reg hok h1 hl)).2 y hy hy2 r hr
  have e1 : ∀ j, j < 28 → stA c r j * xs c y j = (if j < 4 * c.m then stA c r j * solA c j y else 0) + (if j = y then -(solD c * stA c r j) else 0) := fun j _ => by
    unfold xs
    by_cases a : j < 4 * c.m
    · rw [if_pos a, if_pos a, if_neg (by omega), Int.add_zero]
    · rw [if_neg a, if_neg a]
      by_cases b : j = y
      · rw [if_pos b, if_pos b]; grind
      · rw [if_neg b, if_neg b]; omega
  rw [zS_congr e1, zS_add, zS_ext (n := 4 * c.m) (by omega) (fun i a b => if_neg (by omega)), zS_one (p := y) (by omega) (fun i _ h => if_neg h), if_pos rfl]
  rw [zS_congr (g := fun j => stA c r j * solA c j y) (fun j hj => if_pos hj)]
  have hs' : zS (4 * c.m) (fun j => stA c r j * solA c j y) = solD c * stA c r y := hs
  omega
theorem shS_one {c : mCf} {lm lp : Nat} (hlm : lm < c.m) (hlp : lp ≤ 4) (s : Nat) : shS c (xs c (colP c lm lp)) s = -solD c * shP c lm lp (fun _ => 0) s := by
  unfold shS
  rw [zS_one hlm ?_]
  · rw [zS_one (p := lp) (by omega) ?_]
    · rw [xs_n (colP_ge c lm lp), if_pos rfl]
    · intro p hp hne
      rw [xs_n (colP_ge c lm p), if_neg (by unfold colP; omega), Int.zero_mul]
  · intro b hb hne
    refine zS_zero (fun p hp => ?_)
    rw [xs_n (colP_ge c b p), if_neg (by unfold colP; omega), Int.zero_mul]
def WV (c : mCf) : Int := 6 * ePi c * ((scP c c.m : Int) * (scP c c.m : Int))
theorem WV_pos {c : mCf} (hok : okL c) : 0 < WV c := by
  have hP := ePi_pos hok
  have hsc := (scP_ok hok c.m hok.1).1
  exact Int.mul_pos (by omega) (Int.mul_pos (by omega) (by omega))
theorem prJ_zS (fr : Nat → Bool) (A : Nat → Nat → Int) (rg : Nat → Int) (i : Nat) : ∀ n, prJ fr A rg i n = zS n (fun j => if fr j = true then clP A i j * -rg j else 0)
  | 0 => rfl
  | n + 1 => by rw [zS_s, ← prJ_zS fr A rg i n]; rfl
theorem prI_zS (fr : Nat → Bool) (A : Nat → Nat → Int) (lf rg : Nat → Int) : ∀ n, prI fr A lf rg n = zS n (fun i => if fr i = true then prJ fr A rg i 10 * lf i else 0)
  | 0 => rfl
  | n + 1 => by rw [zS_s, ← prI_zS fr A lf rg n]; rfl
/-- the frame's answer, and the solution's moves -/
theorem pr_u {c : mCf} (hok : okL c) (h1 : 1 ≤ c.m) (hl : looseB c = false) {lm lp : Nat} (hlm : lm < c.m) (hlp : lp ≤ 4) (lf : Nat → Int) : WV c * solD c * prI (frP c) (swP c 10).1 lf (shP c lm lp (fun _ => 0)) 10 = (swP c 10).2.1 * zS 10 (fun i => lf i * uv c (xs c (colP c lm lp)) i) := by
  have hm := hok.1
  have hn := xs_node hok h1 hl (colP_ge c lm lp) (by unfold colP; omega)
  have h9 : xs c (colP c lm lp) (9 * c.m) = 0 := by rw [xs_n (by omega), if_neg (by unfold colP; omega)]
  have hnf : ∀ l, l < 10 → frP c l = false → uv c (xs c (colP c lm lp)) l = 0 := fun l _ hf => by
    rw [uv_nf hok h1 hn hf, h9]
    split <;> omega
  have hi : ∀ i, i < 10 → frP c i = true → (swP c 10).2.1 * uv c (xs c (colP c lm lp)) i = WV c * solD c * prJ (frP c) (swP c 10).1 (shP c lm lp (fun _ => 0)) i 10 := fun i hi fi => by
    rw [swp_inv hok (ker_triv hok h1 hl) _ hnf hi fi, prJ_zS, ← zS_mul]
    refine zS_congr (fun j hj => ?_)
    cases fj : frP c j
    · rw [if_neg (by decide), if_neg (by decide), Int.mul_zero]
    · rw [if_pos rfl, if_pos rfl, uv_K hok h1 hn hj fj, shS_one hlm hlp]
      unfold WV
      grind
  rw [prI_zS, ← zS_mul, ← zS_mul]
  refine zS_congr (fun i hi' => ?_)
  cases fi : frP c i
  · rw [if_neg (by decide), hnf i hi' fi, Int.mul_zero, Int.mul_zero, Int.mul_zero]
  · rw [if_pos rfl]
    have := hi i hi' fi
    calc WV c * solD c * (prJ (frP c) (swP c 10).1 (shP c lm lp (fun _ => 0)) i 10 * lf i) = (WV c * solD c * prJ (frP c) (swP c 10).1 (shP c lm lp (fun _ => 0)) i 10) * lf i := by grind
      _ = (swP c 10).2.1 * uv c (xs c (colP c lm lp)) i * lf i := by rw [this]
      _ = _ := by grind
theorem zS_en {c : mCf} (hm : c.m ≤ 3) {k : Nat} (hk : k < c.m) (X Y Z : Int) (u : Nat → Int) : zS 10 (fun i => enP c k X Y Z (fun _ => 0) i * u i) = X * (u k - u (k+1)) + Y * u (esP c (2 * k)) + Z * u (esP c (2 * k + 1)) := by
  have l1 := (esP_lt (c := c) (e := 2 * k) (by omega)).2
  have l3 := (esP_lt (c := c) (e := 2 * k + 1) (by omega)).2
  have e : ∀ i, i < 10 → enP c k X Y Z (fun _ => 0) i * u i = (if i = k then X * u i else 0) + (if i = esP c (2 * k) then Y * u i else 0) + (if i = k + 1 then -X * u i else 0) + (if i = esP c (2 * k + 1) then Z * u i else 0) := fun i _ => by
    unfold enP
    rw [addT_if, addT_if, addT_if, addT_if, Int.add_mul, Int.add_mul, Int.add_mul, Int.zero_add]
    have q : ∀ (P : Prop) [Decidable P] (z : Int), (if P then z else 0) * u i = if P then z * u i else 0 := fun P _ z => by split <;> simp
    rw [q, q, q, q]
  rw [zS_congr e, zS_add, zS_add, zS_add, zS_one (p := k) (by omega) (fun i _ h => if_neg h), if_pos rfl, zS_one l1 (fun i _ h => if_neg h), if_pos rfl, zS_one (p := k + 1) (by omega) (fun i _ h => if_neg h), if_pos rfl, zS_one l3 (fun i _ h => if_neg h), if_pos rfl]
  grind
theorem zS_sh {c : mCf} (hm : c.m ≤ 3) {k : Nat} (hk : k < c.m) (q : Nat) (u : Nat → Int) : zS 10 (fun i => shP c k q (fun _ => 0) i * u i) = ((scP c c.m * (4 - q) * (4 - q) * (4 + 2 * q) : Nat) : Int) * u k + ((c.L k * q * (4 - q) * (4 - q) : Nat) : Int) * u (esP c (2 * k)) + ((scP c c.m * q * q * (12 - 2 * q) : Nat) : Int) * u (k+1) + -((c.L k * q * q * (4 - q) : Nat) : Int) * u (esP c (2 * k + 1)) := by
  have l1 := (esP_lt (c := c) (e := 2 * k) (by omega)).2
  have l3 := (esP_lt (c := c) (e := 2 * k + 1) (by omega)).2
  have q' : ∀ (i : Nat) (P : Prop) [Decidable P] (z : Int), (if P then z else 0) * u i = if P then z * u i else 0 := fun i P _ z => by split <;> simp
  rw [zS_congr (fun i _ => by rw [shP_if, Int.add_mul, Int.add_mul, Int.add_mul, q', q', q', q']), zS_add, zS_add, zS_add, zS_one (p := k) (by omega) (fun i _ h => if_neg h), if_pos rfl, zS_one l1 (fun i _ h => if_neg h), if_pos rfl, zS_one (p := k + 1) (by omega) (fun i _ h => if_neg h), if_pos rfl, zS_one l3 (fun i _ h => if_neg h), if_pos rfl]
end ZV1
