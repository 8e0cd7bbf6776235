section ZA2
/-- how the frame follows supports that settle -/
theorem ms_u {c : mCf} (hok : okL c) (h1 : 1 ≤ c.m) (hl : looseB c = false) {n : Nat} (hn : n ≤ c.m) (hH : c.Hi n = false) (a : Int) : (swP c 10).2.1 * uv c (xs c (9 * c.m)) n * a = 384 * ePi c * solD c * msS c n a (c.m + 1) := by
  have hm := hok.1
  have hN := xs_node hok h1 hl (y := 9 * c.m) (by omega) (Nat.le_refl _)
  have h9 : xs c (9 * c.m) (9 * c.m) = -solD c := by rw [xs_n (by omega), if_pos rfl]
  have hcol : ∀ b p, b < c.m → p ≤ 4 → xs c (9 * c.m) (colP c b p) = 0 := fun b p hb hp => by rw [xs_n (colP_ge c b p), if_neg (by unfold colP; omega)]
  have hsh : ∀ s, shS c (xs c (9 * c.m)) s = 0 := fun s => zS_zero (fun b hb => zS_zero (fun p hp => by rw [hcol b p hb (by omega), Int.zero_mul]))
  have fn : frP c n = true := by rw [frP_lo (by omega)]; exact decide_eq_true ⟨hn, by omega, hH⟩
  have hnf : ∀ s, frP c s = false → uv c (xs c (9 * c.m)) s = if s ≤ c.m then 384 * ePi c * solD c * c.Se s else 0 := fun s hs => by
    rw [uv_nf hok h1 hN hs, h9]
    split
    · grind
    · rfl
  obtain ⟨z, hz⟩ : ∃ z : Nat → Int, ∀ s, z s = if frP c s = true then uv c (xs c (9 * c.m)) s else 0 := ⟨_, fun _ => rfl⟩
  have hinv := swp_inv hok (ker_triv hok h1 hl) z (fun l _ hf => by rw [hz, hf, if_neg (by decide)]) (by omega : n < 10) fn
  have e0 : z n = uv c (xs c (9 * c.m)) n := by rw [hz, fn, if_pos rfl]
  rw [e0] at hinv
  -- what the settled ones do at a free slot
  have hK : ∀ j, j < 10 → frP c j = true → zS 10 (fun l => zK c j l * z l) = -(384 * ePi c * solD c * zS (c.m + 1) (fun h => if c.Hi h = true then zK c j h * c.Se h else 0)) := fun j hj fj => by
    have hu := uv_K hok h1 hN hj fj
    rw [hsh, Int.mul_zero, Int.neg_zero] at hu
    have e1 : ∀ l, l < 10 → zK c j l * uv c (xs c (9 * c.m)) l = zK c j l * z l + (if l ≤ c.m ∧ c.Hi l = true then 384 * ePi c * solD c * (zK c j l * c.Se l) else 0) := fun l hl' => by
      rw [hz]
      cases fl : frP c l
      · rw [if_neg (by decide), hnf l fl]
        by_cases h4 : l < 4
        · rw [frP_lo h4] at fl
          by_cases hlm : l ≤ c.m
          · have hHl : c.Hi l = true := by
              cases e : c.Hi l
              · exact absurd ⟨hlm, h4, e⟩ (of_decide_eq_false fl)
              · rfl
            rw [if_pos hlm, if_pos ⟨hlm, hHl⟩]; grind
          · rw [if_neg hlm, if_neg (fun z => hlm z.1), Int.add_zero]
        · rw [if_neg (by omega), if_neg (fun z => by omega), Int.add_zero]
      · rw [if_pos rfl]
        have : ¬ (l ≤ c.m ∧ c.Hi l = true) := fun z => by
          rw [frP_lo (by omega)] at fl
          have := (of_decide_eq_true fl).2.2
          rw [z.2] at this; exact absurd this (by decide)
        rw [if_neg this, Int.add_zero]
    rw [zS_congr e1, zS_add] at hu
    have e2 : zS 10 (fun l => if l ≤ c.m ∧ c.Hi l = true then 384 * ePi c * solD c * (zK c j l * c.Se l) else 0) = 384 * ePi c * solD c * zS (c.m + 1) (fun h => if c.Hi h = true then zK c j h * c.Se h else 0) := by
      rw [zS_ext (n := c.m + 1) (by omega) (fun i a b => if_neg (fun z => by omega)), ← zS_mul]
      refine zS_congr (fun i hi => ?_)
      cases hHi : c.Hi i
      · rw [if_neg (fun z => absurd z.2 (by decide)), if_neg (by decide), Int.mul_zero]
      · rw [if_pos ⟨by omega, rfl⟩, if_pos rfl]
    omega
  have e3 : zS 10 (fun j => if frP c j = true then clP (swP c 10).1 n j * -(zS 10 (fun l => zK c j l * z l)) else 0) = 384 * ePi c * solD c * zS (c.m + 1) (fun h => if c.Hi h = true then zS 10 (fun j => if frP c j = true then clP (swP c 10).1 n j * zK c j h else 0) * c.Se h else 0) := by
    rw [zS_congr (g := fun j => 384 * ePi c * solD c * zS (c.m + 1) (fun h => if c.Hi h = true then (if frP c j = true then clP (swP c 10).1 n j * zK c j h else 0) * c.Se h else 0)) (fun j hj => by
      cases fj : frP c j
      · rw [if_neg (by decide), zS_zero (fun h _ => by split <;> simp), Int.mul_zero]
      · rw [if_pos rfl, hK j hj fj, Int.neg_neg]
        rw [show clP (swP c 10).1 n j * (384 * ePi c * solD c * zS (c.m + 1) (fun h => if c.Hi h = true then zK c j h * c.Se h else 0)) = 384 * ePi c * solD c * (clP (swP c 10).1 n j * zS (c.m + 1) (fun h => if c.Hi h = true then zK c j h * c.Se h else 0)) by grind, ← zS_mul]
        congr 1
        refine zS_congr (fun h _ => ?_)
        cases c.Hi h
        · rw [if_neg (by decide), if_neg (by decide), Int.mul_zero]
        · rw [if_pos rfl, if_pos rfl, if_pos rfl]; grind), zS_mul, zS_swap]
    congr 1
    refine zS_congr (fun h _ => ?_)
    cases c.Hi h
    · simp only [Bool.false_eq_true, if_false]; exact zS_zero (fun _ _ => rfl)
    · simp only [if_true]
      rw [Int.mul_comm, ← zS_mul]
      exact zS_congr (fun j _ => Int.mul_comm _ _)
  rw [e3] at hinv
  -- the class's sum
  have hms : ∀ t, t ≤ c.m + 1 → msS c n a t = a * zS t (fun h => if c.Hi h = true then zS 10 (fun j => if frP c j = true then clP (swP c 10).1 n j * zK c j h else 0) * c.Se h else 0) := by
    intro t
    induction t with
    | zero => intro _; show (0 : Int) = a * 0; omega
    | succ t ih =>
      intro ht
      have hp : prI (frP c) (swP c 10).1 (oneP n) (plP c t) 10 = zS 10 (fun j => if frP c j = true then clP (swP c 10).1 n j * zK c j t else 0) := by
        rw [prI_zS, zS_one (p := n) (by omega) (fun i _ hne => by
          have : oneP n i = 0 := if_neg hne
          rw [this, Int.mul_zero]; split <;> rfl), fn, if_pos rfl]
        have : oneP n n = 1 := if_pos rfl
        rw [this, Int.mul_one, prJ_zS]
        refine zS_congr (fun j _ => ?_)
        have e : -plP c t j = zK c j t := by show -(-puP c (j * 10 + t)) = puP c (j * 10 + t); omega
        rw [e]
      rw [zS_s, Int.mul_add, ← ih (by omega)]
      show (if c.Hi t = true ∧ c.Se t ≠ 0 then msS c n a t + prI (frP c) (swP c 10).1 (oneP n) (plP c t) 10 * (a * c.Se t) else msS c n a t) = _
      rw [hp]
      generalize zS 10 (fun j => if frP c j = true then clP (swP c 10).1 n j * zK c j t else 0) = Z
      cases hHt : c.Hi t
      · rw [if_neg (fun z => absurd z.1 (by decide)), if_neg (by decide)]; omega
      · rw [if_pos rfl]
        by_cases hs : c.Se t = 0
        · rw [if_neg (fun z => z.2 hs), hs]; omega
        · rw [if_pos ⟨rfl, hs⟩]; grind
  rw [hms (c.m + 1) (Nat.le_refl _), hinv]
  grind
theorem mv_u {c : mCf} (hok : okL c) (h1 : 1 ≤ c.m) (hl : looseB c = false) {n : Nat} (hn : n ≤ c.m) : uv c (xs c (9 * c.m)) n = eo c (mvB c n) * mvV c n ∧ mvB c n < c.m ∧ (c.Hi n = true → mvV c n = (overP c 2 (mvB c n) : Nat) * solD c * c.Se n) := by
  have hm := hok.1
  have hN := xs_node hok h1 hl (y := 9 * c.m) (by omega) (Nat.le_refl _)
  have h9 : xs c (9 * c.m) (9 * c.m) = -solD c := by rw [xs_n (by omega), if_pos rfl]
  have hcol : ∀ b p, b < c.m → p ≤ 4 → xs c (9 * c.m) (colP c b p) = 0 := fun b p hb hp => by rw [xs_n (colP_ge c b p), if_neg (by unfold colP; omega)]
  have hb0 : ∀ k p, behN c k p 0 0 = 0 := fun k p => by unfold behN; rw [if_neg (fun z => by omega)]
  have hv := (hN n hn).2.1
  unfold hV at hv
  rw [uv_h hm hn]
  by_cases e : n < c.m
  · have eb : mvB c n = n := if_pos e
    have a0 : xs c (9 * c.m) (4 * n) = solA c (4 * n) (9 * c.m) := xs_lo (by omega)
    have ev : mvV c n = solA c (4 * n) (9 * c.m) * ((384 * c.E n : Nat) : Int) := by
      unfold mvV
      rw [eb, if_pos e]
      show val2 c n 0 0 0 (9 * c.m) = _
      unfold val2
      rw [hb0]
      simp
    rw [eb]
    refine ⟨?_, e, fun hH => ?_⟩
    · unfold uh
      rw [if_pos e, ev, a0, eo_mul c (show n < 3 by omega)]
      have : ((384 * c.E n : Nat) : Int) = 384 * (c.E n : Int) := by omega
      rw [this]; grind
    · rw [if_pos hH, if_pos e, a0, h9] at hv
      rw [ev]
      show solA c (4 * n) (9 * c.m) * ((384 * c.E n : Nat) : Int) = ((384 * c.E n : Nat) : Int) * solD c * c.Se n
      rw [show solA c (4 * n) (9 * c.m) = c.Se n * solD c by
        have : c.Se n * -solD c = -(c.Se n * solD c) := Int.mul_neg _ _
        omega]
      grind
  · have en : n = c.m := by omega
    have eb : mvB c n = n - 1 := if_neg e
    have ev : mvV c n = RMv c (xs c (9 * c.m)) (n - 1) := by
      unfold mvV
      rw [eb, if_neg e]
      show val2 c (n - 1) 4 0 0 (9 * c.m) = _
      unfold val2 RMv
      rw [hb0, LD3, hcol _ _ (by omega) (by omega), hcol _ _ (by omega) (by omega), hcol _ _ (by omega) (by omega), xs_lo (by omega), xs_lo (by omega), xs_lo (by omega), xs_lo (by omega)]
      have c1 : ((384 * c.E (n - 1) : Nat) : Int) = 384 * (c.E (n - 1) : Int) := by omega
      have c2 : ((96 * c.E (n - 1) * (c.L (n - 1) * 4) : Nat) : Int) = 96 * (c.E (n - 1) : Int) * ((c.L (n - 1) : Int) * 4) := by rw [Int.natCast_mul, Int.natCast_mul, Int.natCast_mul]; rfl
      have c3 : ((12 * (c.L (n - 1) * 4) * (c.L (n - 1) * 4) : Nat) : Int) = 12 * ((c.L (n - 1) : Int) * 4) * ((c.L (n - 1) : Int) * 4) := by rw [Int.natCast_mul, Int.natCast_mul, Int.natCast_mul]; rfl
      have c4 : ((c.L (n - 1) * 4 * (c.L (n - 1) * 4) * (c.L (n - 1) * 4) : Nat) : Int) = (c.L (n - 1) : Int) * 4 * ((c.L (n - 1) : Int) * 4) * ((c.L (n - 1) : Int) * 4) := by rw [Int.natCast_mul, Int.natCast_mul, Int.natCast_mul]; rfl
      have c5 : ((0 * 0 * 0 : Nat) : Int) = 0 := rfl
      rw [c1, c2, c3, c4, c5]
      grind
    rw [eb]
    refine ⟨?_, by omega, fun hH => ?_⟩
    · unfold uh
      rw [if_neg e, ev, en]
    · rw [if_pos hH, if_neg e, h9] at hv
      rw [ev]
      show RMv c (xs c (9 * c.m)) (n - 1) = ((384 * c.E (n - 1) : Nat) : Int) * solD c * c.Se n
      have : ((384 * c.E (n - 1) : Nat) : Int) = 384 * (c.E (n - 1) : Int) := by omega
      rw [this]
      have e2 : 384 * (c.E (n - 1) : Int) * c.Se n * -solD c = -(384 * (c.E (n - 1) : Int) * solD c * c.Se n) := by grind
      omega
theorem mv_cross {c : mCf} (hok : okL c) (h1 : 1 ≤ c.m) (hl : looseB c = false) {n : Nat} (hn : n ≤ c.m) (a b : Int) : msU c n a * (solD c * (overP c 2 (mvB c n) : Nat) * b) = mvV c n * a * msL c n b := by
  obtain ⟨u1, u2, u3⟩ := mv_u hok h1 hl hn
  have hm := hok.1
  unfold msU msL
  cases hH : c.Hi n
  · rw [if_neg (by decide), if_neg (by decide)]
    have hu := ms_u hok h1 hl hn hH a
    rw [u1] at hu
    have ho : ((overP c 2 (mvB c n) : Nat) : Int) = 384 * (c.E (mvB c n) : Int) := by show ((384 * c.E (mvB c n) : Nat) : Int) = _; omega
    rw [ho]
    have he := eo_mul c (show mvB c n < 3 by omega)
    have hne : eo c (mvB c n) ≠ 0 := fun e => by
      have := ePi_pos hok
      rw [he, e, Int.zero_mul] at this; omega
    rw [he] at hu
    generalize eo c (mvB c n) = E at *
    generalize mvV c n = V at *
    generalize msS c n a (c.m + 1) = S at *
    generalize (swP c 10).2.1 = d at *
    generalize (c.E (mvB c n) : Int) = e at *
    have h2 : d * V * a = 384 * e * solD c * S := by
      refine Int.eq_of_mul_eq_mul_left hne ?_
      calc E * (d * V * a) = d * (E * V) * a := by grind
        _ = _ := by rw [hu]; grind
    calc S * (solD c * (384 * e) * b) = 384 * e * solD c * S * b := by grind
      _ = d * V * a * b := by rw [h2]
      _ = _ := by grind
  · rw [if_pos rfl, if_pos rfl, u3 hH]; grind
theorem move_eq {c : mCf} (hok : okL c) (h1 : 1 ≤ c.m) (t : List Nat) (rs : List (Nat × Nat × Nat)) (n a b q : Int) : cMv c n a b q = spMove (c, t, rs) n a b q := by
  have hs := (solve_eq hok h1).2
  have e0 : slN (slC c) 4 = 0 ↔ looseB c = false := by
    cases hb : looseB c
    · exact ⟨fun _ => rfl, fun _ => by
        have := mt hs.mpr (by rw [hb]; decide); omega⟩
    · exact ⟨fun z => by have := hs.mp hb; omega, fun z => absurd z (by decide)⟩
  unfold cMv spMove cvB
  by_cases hA : (0 ≤ n ∧ n ≤ (c.m : Int)) ∧ (-1000 ≤ a ∧ a ≤ 1000) ∧ (1 ≤ b ∧ b ≤ 1000) ∧ -1 ≤ q ∧ slN (slC c) 4 = 0
  · have hl := e0.mp hA.2.2.2.2
    have hB : 0 ≤ n ∧ n ≤ (c.m : Int) ∧ -1000 ≤ a ∧ a ≤ 1000 ∧ 1 ≤ b ∧ b ≤ 1000 ∧ -1 ≤ q ∧ looseB c = false := ⟨hA.1.1, hA.1.2, hA.2.1.1, hA.2.1.2, hA.2.2.1.1, hA.2.2.1.2, hA.2.2.2.1, hl⟩
    rw [if_pos (decide_eq_true hA), if_pos hB]
    show tellv q (rcU (msU c n.toNat a) (msL c n.toNat b)) (rcL (msU c n.toNat a) (msL c n.toNat b)) = tellv q (redP (mvV c n.toNat * a) (solD c * (overP c 2 (mvB c n.toNat) : Nat) * b)) (redQ (mvV c n.toNat * a) (solD c * (overP c 2 (mvB c n.toNat) : Nat) * b))
    have hn : n.toNat ≤ c.m := by omega
    have u2 := (mv_u hok h1 hl hn).2.1
    have hE := (hok.2 (mvB c n.toNat) (by have := hok.1; omega)).2.1
    have hne : solD c * (overP c 2 (mvB c n.toNat) : Nat) * b ≠ 0 := Int.mul_ne_zero (Int.mul_ne_zero (solD_ne hok h1 hl) (by show ((384 * c.E (mvB c n.toNat) : Nat) : Int) ≠ 0; omega)) (by omega)
    have hL : 0 < msL c n.toNat b := by
      unfold msL
      split
      · omega
      · exact Int.mul_pos (swp_pos hok) (by omega)
    obtain ⟨e1, e2⟩ := red_eq hL hne (mv_cross hok h1 hl hn a b)
    rw [← e1, ← e2]
  · rw [if_neg (fun z => hA (of_decide_eq_true z)), if_neg (fun z => hA ⟨⟨z.1, z.2.1⟩, ⟨z.2.2.1, z.2.2.2.1⟩, ⟨z.2.2.2.2.1, z.2.2.2.2.2.1⟩, z.2.2.2.2.2.2.1, e0.mpr z.2.2.2.2.2.2.2⟩)]
end ZA2
