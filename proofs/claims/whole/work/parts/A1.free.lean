section ZQ1
theorem node_free {c : mCf} (hok : okL c) (h1 : 1 ≤ c.m) {n : Nat} (hn : n ≤ c.m) : freeP c n = true ↔ (∃ v, (∀ k, k ≤ c.m → nodeL c v k) ∧ xlh c v n ≠ 0) ∨ (0 < n ∧ c.Hg (2 * n - 1) = false ∧ ∃ v, (∀ k, k ≤ c.m → nodeL c v k) ∧ v (2 * n - 2 + 1) ≠ 0) ∨ (n < c.m ∧ c.Hg (2 * n) = false ∧ ∃ v, (∀ k, k ≤ c.m → nodeL c v k) ∧ v (2 * n + 1) ≠ 0) := by
  have hm := hok.1
  unfold freeP
  rw [Bool.or_eq_true, Bool.or_eq_true, or_assoc]
  refine or_congr ?_ (or_congr ?_ ?_)
  · by_cases e : n < c.m
    · rw [if_pos e, freeF_iff hok h1 (by omega) (by omega) (by omega) (by omega) (by omega) (by omega)]
      have ex : ∀ v, xlh c v n = v (2 * n) := fun v => if_pos e
      constructor
      · rintro ⟨v, a, b⟩; exact ⟨v, a, by rw [ex]; omega⟩
      · rintro ⟨v, a, b⟩; rw [ex] at b; exact ⟨v, a, by omega⟩
    · have hL := (hok.2 (n - 1) (by omega)).1
      rw [if_neg e, freeF_iff hok h1 (by omega) (by omega) (by omega) (by omega) (by omega) (by omega)]
      have ex : ∀ v, xlh c v n = v (2 * n - 2) + (c.L (n - 1) : Int) * v (2 * n - 2 + 1) := fun v => by
        unfold xlh
        rw [if_neg e, show c.m = n by omega]
      constructor
      · rintro ⟨v, a, b⟩; exact ⟨v, a, by rw [ex]; omega⟩
      · rintro ⟨v, a, b⟩; rw [ex] at b; exact ⟨v, a, by omega⟩
  · by_cases e : 0 < n
    · rw [decide_eq_true e, Bool.true_and, Bool.and_eq_true, Bool.not_eq_true', freeF_iff hok h1 (by omega) (by omega) (by omega) (by omega) (by omega) (by omega)]
      constructor
      · rintro ⟨a, v, b, d⟩; exact ⟨e, a, v, b, by omega⟩
      · rintro ⟨_, a, v, b, d⟩; exact ⟨a, v, b, by omega⟩
    · rw [decide_eq_false e, Bool.false_and, Bool.false_and]
      exact ⟨fun z => absurd z (by decide), fun z => absurd z.1 e⟩
  · by_cases e : n < c.m
    · rw [decide_eq_true e, Bool.true_and, Bool.and_eq_true, Bool.not_eq_true', freeF_iff hok h1 (by omega) (by omega) (by omega) (by omega) (by omega) (by omega)]
      constructor
      · rintro ⟨a, v, b, d⟩; exact ⟨e, a, v, b, by omega⟩
      · rintro ⟨_, a, v, b, d⟩; exact ⟨a, v, b, by omega⟩
    · rw [decide_eq_false e, Bool.false_and, Bool.false_and]
      exact ⟨fun z => absurd z (by decide), fun z => absurd z.1 e⟩
theorem vl_h {c : mCf} (hok : okL c) {x : Nat → Int} (hx : zKer (zK c) (frP c) x) (h1 : 1 ≤ c.m) {n : Nat} (hn : n ≤ c.m) : xlh c (vl c x) n = (scP c c.m : Int) * x n := by
  unfold xlh
  by_cases e : n < c.m
  · rw [if_pos e, vl_0]
  · rw [if_neg e, show 2 * c.m - 2 = 2 * (c.m - 1) by omega, vl_0, vl_1, (zK_rig hok hx (c.m - 1) (by omega)).1, rtL hok (show c.m - 1 < c.m by omega), show c.m - 1 + 1 = n by omega]
    grind
theorem sc_ne {c : mCf} (hok : okL c) : (scP c c.m : Int) ≠ 0 := by
  have := (scP_ok hok c.m hok.1).1
  omega
theorem slS_h {c : mCf} (hok : okL c) (h1 : 1 ≤ c.m) {n : Nat} (hn : n ≤ c.m) : slS (frP c) (swP c 10).2.2 (swP c 10).1 n = true ↔ ∃ v, (∀ k, k ≤ c.m → nodeL c v k) ∧ xlh c v n ≠ 0 := by
  have hm := hok.1
  rw [slS_ker hok (by omega)]
  constructor
  · rintro ⟨_, x, hx, hne⟩
    refine ⟨vl c x, ker_KL hok h1 hx, ?_⟩
    rw [vl_h hok hx h1 hn]; exact Int.mul_ne_zero (sc_ne hok) hne
  · rintro ⟨v, hv, hne⟩
    have hk := ker_LK hok h1 hv
    have hxn : xl c v n ≠ 0 := by rw [xl_lo hm hn]; exact hne
    refine ⟨?_, xl c v, hk, hxn⟩
    cases e : frP c n
    · exact absurd (hk.1 n (by omega) e) hxn
    · rfl
theorem slS_t {c : mCf} (hok : okL c) (h1 : 1 ≤ c.m) {e : Nat} (he : e < 2 * c.m) : slS (frP c) (swP c 10).2.2 (swP c 10).1 (esP c e) = true ↔ ∃ v, (∀ k, k ≤ c.m → nodeL c v k) ∧ v (2 * (e / 2) + 1) ≠ 0 := by
  have hm := hok.1
  have hs := (esP_lt (c := c) (e := e) (by omega)).2
  rw [slS_ker hok hs]
  constructor
  · rintro ⟨_, x, hx, hne⟩
    refine ⟨vl c x, ker_KL hok h1 hx, ?_⟩
    rw [vl_1]
    have rig := zK_rig hok hx (e / 2) (by omega)
    rcases Nat.mod_two_eq_zero_or_one e with g | g
    · rw [show 2 * (e / 2) = e by omega]; exact hne
    · rw [rig.1, ← rig.2, show 2 * (e / 2) + 1 = e by omega]; exact hne
  · rintro ⟨v, hv, hne⟩
    have hk := ker_LK hok h1 hv
    have hxn : xl c v (esP c e) ≠ 0 := by rw [xl_es hm hv he]; exact Int.mul_ne_zero (sc_ne hok) hne
    refine ⟨?_, xl c v, hk, hxn⟩
    cases e' : frP c (esP c e)
    · exact absurd (hk.1 _ hs e') hxn
    · rfl
theorem slC_free {c : mCf} (hok : okL c) (h1 : 1 ≤ c.m) {n : Nat} (hn : n ≤ c.m) : slC c n = freeP c n := by
  have hm := hok.1
  rw [Bool.eq_iff_iff, node_free hok h1 hn]
  show slP c (frP c) (swP c 10).2.2 (swP c 10).1 n = true ↔ _
  unfold slP
  rw [Bool.or_eq_true, Bool.or_eq_true, slS_h hok h1 hn]
  refine or_congr Iff.rfl (or_congr ?_ ?_)
  · unfold slE
    rw [Bool.and_eq_true, Bool.and_eq_true, decide_eq_true_iff, Bool.not_eq_true']
    by_cases e : 0 < n
    · have ht : (2 * (n : Int) - 1).toNat = 2 * n - 1 := by omega
      rw [ht, slS_t hok h1 (by omega), show 2 * ((2 * n - 1) / 2) + 1 = 2 * n - 2 + 1 by omega]
      exact ⟨fun z => ⟨e, z.2⟩, fun z => ⟨by omega, z.2⟩⟩
    · exact ⟨fun z => by omega, fun z => absurd z.1 e⟩
  · unfold slE
    rw [Bool.and_eq_true, Bool.and_eq_true, decide_eq_true_iff, Bool.not_eq_true']
    by_cases e : n < c.m
    · have ht : (2 * (n : Int)).toNat = 2 * n := by omega
      rw [ht, slS_t hok h1 (by omega), show 2 * (2 * n / 2) + 1 = 2 * n + 1 by omega]
      exact ⟨fun z => ⟨e, z.2⟩, fun z => ⟨by omega, z.2⟩⟩
    · exact ⟨fun z => by omega, fun z => absurd z.1 e⟩
theorem slC_hi {c : mCf} {n : Nat} (hn : c.m < n) (h4 : n < 4) : slC c n = false := by
  show slP c (frP c) (swP c 10).2.2 (swP c 10).1 n = false
  unfold slP
  have e1 : frP c n = false := by rw [frP_lo h4]; exact decide_eq_false (by omega)
  have e2 : slS (frP c) (swP c 10).2.2 (swP c 10).1 n = false := by
    unfold slS; rw [if_neg (fun z => by rw [e1] at z; exact absurd z.1 (by decide))]; exact e1
  have e3 : slE c (frP c) (swP c 10).2.2 (swP c 10).1 (2 * (n : Int) - 1) = false := by
    unfold slE; rw [decide_eq_false (by omega)]; rfl
  have e4 : slE c (frP c) (swP c 10).2.2 (swP c 10).1 (2 * (n : Int)) = false := by
    unfold slE; rw [decide_eq_false (by omega)]; rfl
  rw [e2, e3, e4]; rfl
theorem loose_node {c : mCf} (hok : okL c) (h1 : 1 ≤ c.m) : looseB c = true ↔ ∃ n, n ≤ c.m ∧ freeP c n = true := by
  rw [loose_iff hok h1]
  constructor
  · rintro ⟨v, hv, j, hj, hne⟩
    rcases Nat.mod_two_eq_zero_or_one j with g | g
    · refine ⟨j / 2, by omega, (node_free hok h1 (by omega)).mpr (Or.inl ⟨v, hv, ?_⟩)⟩
      rw [(xlh_s hv (by omega)).1, show 2 * (j / 2) = j by omega]; exact hne
    · have hs := xlh_s hv (k := j / 2) (by omega)
      rw [show 2 * (j / 2) + 1 = j by omega] at hs
      by_cases e : v (2 * (j / 2)) = 0
      · refine ⟨j / 2 + 1, by omega, (node_free hok h1 (by omega)).mpr (Or.inl ⟨v, hv, ?_⟩)⟩
        rw [hs.2, e, Int.zero_add]
        have hL := (hok.2 (j / 2) (by have := hok.1; omega)).1.1
        exact Int.mul_ne_zero (by omega) hne
      · refine ⟨j / 2, by omega, (node_free hok h1 (by omega)).mpr (Or.inl ⟨v, hv, ?_⟩)⟩
        rw [hs.1]; exact e
  · rintro ⟨n, hn, hf⟩
    rcases (node_free hok h1 hn).mp hf with ⟨v, hv, hne⟩ | ⟨a, _, v, hv, hne⟩ | ⟨a, _, v, hv, hne⟩
    · refine ⟨v, hv, Classical.byContradiction (fun hno => hne ?_)⟩
      have z : ∀ j, j < 2 * c.m → v j = 0 := fun j hj => Classical.byContradiction (fun h => hno ⟨j, hj, h⟩)
      unfold xlh
      by_cases e : n < c.m
      · rw [if_pos e]; exact z _ (by omega)
      · rw [if_neg e, z _ (by omega), z _ (by omega)]; omega
    · exact ⟨v, hv, _, by omega, hne⟩
    · exact ⟨v, hv, _, by omega, hne⟩
/-- no move without load, where the row is not loose -/
theorem ker_triv {c : mCf} (hok : okL c) (h1 : 1 ≤ c.m) (hl : looseB c = false) : ∀ x, zKer (zK c) (frP c) x → ∀ s, s < 10 → x s = 0 := fun x hx => by
  have hm := hok.1
  have z : ∀ j, j < 2 * c.m → vl c x j = 0 := fun j hj => Classical.byContradiction (fun h => by
    rw [(loose_iff hok h1).mpr ⟨vl c x, ker_KL hok h1 hx, j, hj, h⟩] at hl
    exact absurd hl (by decide))
  have hh : ∀ n, n ≤ c.m → x n = 0 := fun n hn => by
    have e1 := vl_h hok hx h1 hn
    have e2 : xlh c (vl c x) n = 0 := by
      unfold xlh
      by_cases e : n < c.m
      · rw [if_pos e]; exact z _ (by omega)
      · rw [if_neg e, z _ (by omega), z _ (by omega)]; omega
    rw [e2] at e1
    rcases Int.mul_eq_zero.mp e1.symm with f | f
    · exact absurd f (sc_ne hok)
    · exact f
  intro s hs
  by_cases h4 : s < 4
  · by_cases e : s ≤ c.m
    · exact hh s e
    · exact hx.1 s hs (by rw [frP_lo h4]; exact decide_eq_false (by omega))
  · by_cases e : ∃ e, e < 2 * c.m ∧ esP c e = s
    · obtain ⟨e, he, rfl⟩ := e
      have rig := zK_rig hok hx (e / 2) (by omega)
      rw [hh (e / 2 + 1) (by omega), hh (e / 2) (by omega), Int.sub_self, Int.mul_zero] at rig
      rcases Nat.mod_two_eq_zero_or_one e with g | g
      · rw [show e = 2 * (e / 2) by omega]; exact rig.1
      · rw [show e = 2 * (e / 2) + 1 by omega]; exact rig.2
    · exact hx.1 s hs (frS_hi (by omega) _ (fun e' he' hs' => e ⟨e', he', hs'⟩))
theorem lnP_eq (sl : Nat → Bool) : ∀ (u k : Nat) (left : Int), lnP sl u k left = if 0 ≤ left ∧ left < (((List.range' k u).filter sl).length : Int) then ((((List.range' k u).filter sl).getD left.toNat 0 : Nat) : Int) else -1
  | 0, k, left => by
    rw [if_neg (by simp)]; rfl
  | u + 1, k, left => by
    unfold lnP
    rw [List.range'_succ]
    cases e : sl k
    · rw [if_neg (by decide), List.filter_cons_of_neg (by rw [e]; decide)]
      exact lnP_eq sl u (k+1) left
    · rw [if_pos rfl, List.filter_cons_of_pos e]
      by_cases h0 : left = 0
      · rw [if_pos h0, h0, if_pos (by rw [List.length_cons]; omega)]; rfl
      · rw [if_neg h0, lnP_eq sl u (k+1) (left-1)]
        by_cases hp : 0 ≤ left
        · obtain ⟨n, rfl⟩ : ∃ n : Nat, left = (n : Int) + 1 := ⟨(left - 1).toNat, by omega⟩
          have e1 : ((n : Int) + 1 - 1).toNat = n := by omega
          have e2 : ((n : Int) + 1).toNat = n + 1 := by omega
          rw [List.length_cons, e1, e2, List.getD_cons_succ]
          by_cases g : (n : Int) + 1 - 1 < (((List.range' (k+1) u).filter sl).length : Int)
          · rw [if_pos ⟨by omega, g⟩, if_pos (by omega)]
          · rw [if_neg (fun z => g z.2), if_neg (by omega)]
        · rw [if_neg (by omega), if_neg (by omega)]
theorem sl_list {c : mCf} (hok : okL c) (h1 : 1 ≤ c.m) : (List.range' 0 4).filter (slC c) = lsN c (c.m + 1) := by
  have hm := hok.1
  unfold lsN
  rw [List.range_eq_range']
  have e1 : List.range' 0 4 = List.range' 0 (c.m + 1) ++ List.range' (c.m + 1) (3 - c.m) := by
    rcases (by omega : c.m = 1 ∨ c.m = 2 ∨ c.m = 3) with e | e | e <;> rw [e] <;> rfl
  rw [e1, List.filter_append]
  have e2 : (List.range' (c.m + 1) (3 - c.m)).filter (slC c) = [] := by
    rw [List.filter_eq_nil_iff]
    intro a ha
    rw [List.mem_range'_1] at ha
    rw [slC_hi (by omega) (by omega)]; decide
  rw [e2, List.append_nil]
  refine List.filter_congr (fun a ha => ?_)
  rw [List.mem_range'_1] at ha
  exact slC_free hok h1 (by omega)
theorem slN_len (sl : Nat → Bool) : ∀ n, slN sl n = ((List.range' 0 n).filter sl).length
  | 0 => rfl
  | n + 1 => by
    show slN sl n + bN (sl n) = _
    rw [List.range'_1_concat, List.filter_append, List.length_append, slN_len sl n, Nat.zero_add]
    cases e : sl n
    · rw [List.filter_cons_of_neg (by rw [e]; decide)]; rfl
    · rw [List.filter_cons_of_pos e]; rfl
theorem solve_eq {c : mCf} (hok : okL c) (h1 : 1 ≤ c.m) : slN (slC c) 4 = spSolve c ∧ (looseB c = true ↔ 0 < slN (slC c) 4) := by
  have e1 : slN (slC c) 4 = (lsN c (c.m + 1)).length := by rw [slN_len, sl_list hok h1]
  have e2 : looseB c = true ↔ 0 < (lsN c (c.m + 1)).length := by
    rw [loose_node hok h1, List.length_pos_iff_exists_mem]
    unfold lsN
    constructor
    · rintro ⟨n, hn, hf⟩; exact ⟨n, List.mem_filter.mpr ⟨List.mem_range.mpr (by omega), hf⟩⟩
    · rintro ⟨n, hn⟩
      obtain ⟨a, b⟩ := List.mem_filter.mp hn
      exact ⟨n, by have := List.mem_range.mp a; omega, b⟩
  refine ⟨?_, by rw [e1]; exact e2⟩
  rw [e1]
  unfold spSolve
  by_cases e : looseB c = true
  · rw [if_pos e]
  · rw [if_neg e]
    have := mt e2.mpr e
    omega
theorem loose_eq {c : mCf} (hok : okL c) (h1 : 1 ≤ c.m) (k : Int) : lnP (slC c) 4 0 k = spLoose c k := by
  have hs := (solve_eq hok h1).2
  rw [slN_len, sl_list hok h1] at hs
  rw [lnP_eq, sl_list hok h1]
  unfold spLoose
  by_cases e : looseB c = true
  · by_cases g : 0 ≤ k ∧ k < ((lsN c (c.m + 1)).length : Int)
    · rw [if_pos g, if_pos ⟨e, g⟩]
    · rw [if_neg g, if_neg (fun z => g z.2)]
  · have := mt hs.mpr e
    rw [if_neg (by omega), if_neg (fun z => e z.1)]
end ZQ1
