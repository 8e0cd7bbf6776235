section ZO
theorem rk_cmp {W W' : Nat → Nat → Int} {n n' : Nat} (hs : zRs W n) (hs' : zRs W' n') (sub : ∀ c, c < 6 → zfr W' n' c → zfr W n c) : ∀ c, c ≤ 6 → (rkS W n c).2 ≤ (rkS W' n' c).2 ∧ ((∃ c0, c0 < c ∧ zfr W n c0 ∧ ¬ zfr W' n' c0) → (rkS W n c).2 < (rkS W' n' c).2) ∧ ((∀ c0, c0 < c → zfr W n c0 → zfr W' n' c0) → (rkS W n c).2 = (rkS W' n' c).2)
  | 0, _ => ⟨Nat.le_refl _, fun ⟨c0, h, _⟩ => by omega, fun _ => rfl⟩
  | c + 1, hc => by
    obtain ⟨i1, i2, i3⟩ := rk_cmp hs hs' sub c (by omega)
    have s1 := rk_step hs (c := c) (by omega)
    have s2 := rk_step hs' (c := c) (by omega)
    by_cases e1 : zfr W n c
    · by_cases e2 : zfr W' n' c
      · rw [s1.1 e1, s2.1 e2]
        refine ⟨i1, fun ⟨c0, h, h1, h2⟩ => i2 ⟨c0, ?_, h1, h2⟩, fun h => i3 (fun c0 h0 => h c0 (by omega))⟩
        refine Classical.byContradiction (fun hn => h2 ?_)
        rw [show c0 = c by omega]; exact e2
      · rw [s1.1 e1, s2.2 e2]
        exact ⟨by omega, fun _ => by omega, fun h => absurd (h c (by omega) e1) e2⟩
    · have e2 : ¬ zfr W' n' c := fun h => e1 (sub c (by omega) h)
      rw [s1.2 e1, s2.2 e2]
      refine ⟨by omega, fun ⟨c0, h, h1, h2⟩ => ?_, fun h => by rw [i3 (fun c0 h0 => h c0 (by omega))]⟩
      have := i2 ⟨c0, Classical.byContradiction (fun hn => e1 (by rw [← show c0 = c by omega]; exact h1)), h1, h2⟩
      omega
theorem free_iff {W : Nat → Nat → Int} {n : Nat} {f : Nat → Int} (hs : zRs W n) (hs' : zRs (addL W n f) (n+1)) : rkN W n < rkN (addL W n f) (n+1) ↔ ∃ x, kerP W n x ∧ zS 6 (fun j => f j * x j) ≠ 0 := by
  have sub : ∀ c, c < 6 → zfr (addL W n f) (n+1) c → zfr W n c := fun c _ ⟨x, h1, h2⟩ => ⟨x, (kerP_add.mp h1).1, h2⟩
  obtain ⟨i1, i2, i3⟩ := rk_cmp hs hs' sub 6 (Nat.le_refl _)
  constructor
  · intro h
    refine Classical.byContradiction (fun hn => ?_)
    have : rkN W n = rkN (addL W n f) (n+1) := i3 (fun c0 _ ⟨x, h1, h2⟩ => ⟨x, kerP_add.mpr ⟨h1, Classical.byContradiction (fun hne => hn ⟨x, h1, hne⟩)⟩, h2⟩)
    omega
  · rintro ⟨x, hx, hf⟩
    refine i2 (Classical.byContradiction (fun hn => ?_))
    have all : ∀ c0, c0 < 6 → zfr W n c0 → zfr (addL W n f) (n+1) c0 := fun c0 h0 h1 => Classical.byContradiction (fun h2 => hn ⟨c0, h0, h1, h2⟩)
    have down : ∀ d t, t + d = 6 → ∃ x, kerP W n x ∧ zS 6 (fun j => f j * x j) ≠ 0 ∧ ∀ j, t ≤ j → j < 6 → x j = 0 := by
      intro d
      induction d with
      | zero => intro t ht; exact ⟨x, hx, hf, fun j h1 h2 => by omega⟩
      | succ d ih =>
        intro t ht
        obtain ⟨x, hx, hf, h0⟩ := ih (t+1) (by omega)
        by_cases e : x t = 0
        · exact ⟨x, hx, hf, fun j h1 h2 => by
            by_cases g : j = t
            · rw [g]; exact e
            · exact h0 j (by omega) h2⟩
        · obtain ⟨y, hy, hyt, hy0⟩ := all t (by omega) ⟨x, hx, e, fun j h1 h2 => h0 j (by omega) h2⟩
          obtain ⟨hy1, hy2⟩ := kerP_add.mp hy
          have lin : ∀ g : Nat → Int, zS 6 (fun j => g j * (y t * x j + -x t * y j)) = y t * zS 6 (fun j => g j * x j) + -x t * zS 6 (fun j => g j * y j) := fun g => by
            rw [← zS_lin]; exact zS_congr (fun j _ => by grind)
          refine ⟨fun j => y t * x j + -x t * y j, fun i hi => ?_, ?_, fun j h1 h2 => ?_⟩
          · rw [lin (W i), hx i hi, hy1 i hi]; omega
          · rw [lin f, hy2, Int.mul_zero, Int.add_zero]; exact Int.mul_ne_zero hyt hf
          · show y t * x j + -x t * y j = 0
            by_cases g : j = t
            · rw [g]; grind
            · rw [h0 j (by omega) h2, hy0 j (by omega) h2]; omega
    obtain ⟨x, _, h2, h3⟩ := down 6 0 rfl
    exact h2 (zS_zero (fun j hj => by rw [h3 j (by omega) hj, Int.mul_zero]))
theorem nodeL_congr {c : mCf} (h1 : 1 ≤ c.m) {x y : Nat → Int} (h : ∀ i, i < 2 * c.m → x i = y i) {k : Nat} (hk : k ≤ c.m) (hx : nodeL c x k) : nodeL c y k := by
  obtain ⟨a1, a2, a3, a4, a5⟩ := hx
  refine ⟨fun b1 b2 => ?_, fun b => ⟨fun b1 => ?_, fun b1 => ?_⟩, fun b b1 b2 => ?_, fun b b1 b2 => ?_, fun b b1 b2 b3 b4 => ?_⟩
  · rw [← h _ (by omega), ← h _ (by omega), ← h _ (by omega)]; exact a1 b1 b2
  · rw [← h _ (by omega)]; exact (a2 b).1 b1
  · rw [← h _ (by omega), ← h _ (by omega)]; exact (a2 b).2 b1
  · rw [← h _ (by omega)]; exact a3 b b1 b2
  · rw [← h _ (by omega)]; exact a4 b b1 b2
  · rw [← h _ (by omega), ← h _ (by omega)]; exact a5 b b1 b2 b3 b4
theorem last_nz {x : Nat → Int} : ∀ t, (∃ j, j < t ∧ x j ≠ 0) → ∃ c0, c0 < t ∧ x c0 ≠ 0 ∧ ∀ j, c0 < j → j < t → x j = 0
  | 0, ⟨j, h, _⟩ => by omega
  | t + 1, ⟨j, h, hx⟩ => by
    by_cases e : x t = 0
    · obtain ⟨c0, h1, h2, h3⟩ := last_nz t ⟨j, Classical.byContradiction (fun hn => hx (by rw [show j = t by omega]; exact e)), hx⟩
      exact ⟨c0, by omega, h2, fun i hi hit => by
        by_cases g : i = t
        · rw [g]; exact e
        · exact h3 i hi (by omega)⟩
    · exact ⟨t, by omega, e, fun i hi hit => by omega⟩
theorem rk_cnt {W : Nat → Nat → Int} {n : Nat} (hs : zRs W n) : ∀ c, c ≤ 6 → ((∀ c0, c0 < c → ¬ zfr W n c0) → (rkS W n c).2 = c) ∧ ((∃ c0, c0 < c ∧ zfr W n c0) → (rkS W n c).2 < c)
  | 0, _ => ⟨fun _ => rfl, fun ⟨c0, h, _⟩ => by omega⟩
  | c + 1, hc => by
    obtain ⟨i1, i2⟩ := rk_cnt hs c (by omega)
    have s1 := rk_step hs (c := c) (by omega)
    have hle := (rkS_le W n c).2
    by_cases e : zfr W n c
    · rw [s1.1 e]
      exact ⟨fun h => absurd e (h c (by omega)), fun _ => by omega⟩
    · rw [s1.2 e]
      refine ⟨fun h => by rw [i1 (fun c0 h0 => h c0 (by omega))], fun ⟨c0, h, h1⟩ => ?_⟩
      have := i2 ⟨c0, Classical.byContradiction (fun hn => e (by rw [← show c0 = c by omega]; exact h1)), h1⟩
      omega
theorem loose_iff {c : mCf} (hok : okL c) (h1 : 1 ≤ c.m) : looseB c = true ↔ ∃ x, (∀ k, k ≤ c.m → nodeL c x k) ∧ ∃ j, j < 2 * c.m ∧ x j ≠ 0 := by
  have hm := hok.1
  have hs := li_rs hok h1
  have up : ∀ c0, 2 * c.m ≤ c0 → c0 < 6 → zfr (liR c) (liN c) c0 := fun c0 a b => by
    refine ⟨fun j => if j = c0 then 1 else 0, (li_ker hm h1).mpr (fun k hk => ?_), by show (if c0 = c0 then (1 : Int) else 0) ≠ 0; rw [if_pos rfl]; decide, fun j hj _ => by show (if j = c0 then (1 : Int) else 0) = 0; rw [if_neg (by omega)]⟩
    refine nodeL_congr h1 (x := fun _ => 0) (fun i hi => by show (0 : Int) = if i = c0 then 1 else 0; rw [if_neg (by omega)]) hk ?_
    exact ⟨fun _ _ => by show (0 : Int) = 0 + _ * 0; omega, fun _ => ⟨fun _ => rfl, fun _ => by show (0 : Int) + _ * 0 = 0; omega⟩, fun _ _ _ => rfl, fun _ _ _ => rfl, fun _ _ _ _ _ => rfl⟩
  have stay : ∀ d, 2 * c.m + d ≤ 6 → (rkS (liR c) (liN c) (2 * c.m + d)).2 = (rkS (liR c) (liN c) (2 * c.m)).2 := by
    intro d
    induction d with
    | zero => intro _; rfl
    | succ d ih => intro hd; rw [← Nat.add_assoc, (rk_step hs (by omega)).1 (up _ (by omega) (by omega)), ih (by omega)]
  have hK : liK c = (rkS (liR c) (liN c) (2 * c.m)).2 := by
    have := stay (6 - 2 * c.m) (by omega)
    rw [show 2 * c.m + (6 - 2 * c.m) = 6 by omega] at this
    exact this
  have cnt := rk_cnt hs (2 * c.m) (by omega)
  unfold looseB
  rw [decide_eq_true_iff, hK]
  constructor
  · intro h
    have : ∃ c0, c0 < 2 * c.m ∧ zfr (liR c) (liN c) c0 := Classical.byContradiction (fun hn => by
      have := cnt.1 (fun c0 h0 hz => hn ⟨c0, h0, hz⟩)
      omega)
    obtain ⟨c0, h0, x, hx, hxc, _⟩ := this
    exact ⟨x, (li_ker hm h1).mp hx, c0, h0, hxc⟩
  · rintro ⟨x, hx, hj⟩
    obtain ⟨c0, h0, hxc, hx0⟩ := last_nz _ hj
    refine cnt.2 ⟨c0, h0, fun j => if j < 2 * c.m then x j else 0, (li_ker hm h1).mpr (fun k hk => nodeL_congr h1 (fun i hi => by rw [if_pos hi]) hk (hx k hk)), ?_, fun j a b => ?_⟩
    · show (if c0 < 2 * c.m then x c0 else 0) ≠ 0
      rw [if_pos h0]; exact hxc
    · show (if j < 2 * c.m then x j else 0) = 0
      by_cases e : j < 2 * c.m
      · rw [if_pos e]; exact hx0 j a e
      · rw [if_neg e]
theorem freeF_iff {c : mCf} (hok : okL c) (h1 : 1 ≤ c.m) {a b : Nat} {x y : Int} (ha : a < 6) (hb : b < 6) (hx0 : 0 ≤ x) (hx : x ≤ 12) (hy0 : 0 ≤ y) (hy : y ≤ 12) : freeF c a x b y = true ↔ ∃ v, (∀ k, k ≤ c.m → nodeL c v k) ∧ x * v a + y * v b ≠ 0 := by
  have hs := li_rs hok h1
  have hs' : zRs (addL (liR c) (liN c) (lineV a x b y 0 0)) (liN c + 1) := zRs_if (b := true) (D := (liR c, liN c)) hs (Int.le_trans (line_abs ha hb (by omega) _ _ _) (by omega))
  unfold freeF
  rw [decide_eq_true_iff, show liK c = rkN (liR c) (liN c) from rfl, free_iff hs hs']
  constructor
  · rintro ⟨v, h2, h3⟩
    rw [zS_line ha hb (by omega)] at h3
    exact ⟨v, (li_ker hok.1 h1).mp h2, by omega⟩
  · rintro ⟨v, h2, h3⟩
    refine ⟨v, (li_ker hok.1 h1).mpr h2, ?_⟩
    rw [zS_line ha hb (by omega)]; omega
/-- which slots are free -/
theorem esP_odd (c : mCf) (k : Nat) : esP c (2 * k + 1) = 4 + (2 * k + 1) := by
  unfold esP; rw [if_neg (fun z => by omega)]
theorem frS_es {c : mCf} : ∀ n e, e < n → frS c n (esP c e) = (c.Hg e || !c.Tu ((e + 1) / 2))
  | 0, e, h => by omega
  | n + 1, e, h => by
    show mu (frS c n) (esP c n) (c.Hg n || !c.Tu ((n + 1) / 2)) (esP c e) = _
    by_cases g : e = n
    · rw [g, mu_s]
    · by_cases f : esP c e = esP c n
      · rw [f, mu_s]
        unfold esP at f
        by_cases f1 : n % 2 = 0 ∧ 0 < n ∧ c.Hg n = false ∧ c.Hg (n - 1) = false
        · rw [if_pos f1] at f
          have he : e = n - 1 := by
            split at f <;> omega
          rw [he, f1.2.2.1, f1.2.2.2, show (n - 1 + 1) / 2 = (n + 1) / 2 by omega]
        · rw [if_neg f1] at f
          split at f <;> omega
      · rw [mu_n f]
        exact frS_es n e (by omega)
theorem frP_es {c : mCf} {e : Nat} (h : e < 2 * c.m) : frP c (esP c e) = (c.Hg e || !c.Tu ((e + 1) / 2)) := frS_es (2 * c.m) e h
theorem frS_lo {c : mCf} {s : Nat} (hs : s < 4) : ∀ n, frS c n s = decide (s ≤ c.m ∧ s < 4 ∧ c.Hi s = false)
  | 0 => rfl
  | n + 1 => by
    show mu (frS c n) (esP c n) _ s = _
    rw [mu_n (by unfold esP; split <;> omega)]
    exact frS_lo hs n
theorem frP_lo {c : mCf} {s : Nat} (hs : s < 4) : frP c s = decide (s ≤ c.m ∧ s < 4 ∧ c.Hi s = false) := frS_lo hs _
theorem frS_hi {c : mCf} {s : Nat} (hs : 4 ≤ s) : ∀ n, (∀ e, e < n → esP c e ≠ s) → frS c n s = false
  | 0, _ => by show decide (s ≤ c.m ∧ s < 4 ∧ c.Hi s = false) = false; exact decide_eq_false (by omega)
  | n + 1, h => by
    show mu (frS c n) (esP c n) _ s = _
    rw [mu_n (Ne.symm (h n (by omega)))]
    exact frS_hi hs n (fun e he => h e (by omega))
/-- a move of the frame without load, as a move of stiff beams -/
def vl (c : mCf) (x : Nat → Int) (i : Nat) : Int := if i % 2 = 0 then (scP c c.m : Int) * x (i / 2) else x (esP c (2 * (i / 2)))
theorem vl_0 (c : mCf) (x : Nat → Int) (k : Nat) : vl c x (2 * k) = (scP c c.m : Int) * x k := by
  unfold vl; rw [if_pos (by omega), show 2 * k / 2 = k by omega]
theorem vl_1 (c : mCf) (x : Nat → Int) (k : Nat) : vl c x (2 * k + 1) = x (esP c (2 * k)) := by
  unfold vl; rw [if_neg (by omega), show (2 * k + 1) / 2 = k by omega]
theorem rtL {c : mCf} (hok : okL c) {k : Nat} (hk : k < c.m) : (scP c c.m : Int) = (rtP c k : Int) * (c.L k : Int) := by
  rw [← Int.natCast_mul, rtP_mul hok hk]
theorem ker_KL {c : mCf} (hok : okL c) (h1 : 1 ≤ c.m) {x : Nat → Int} (hx : zKer (zK c) (frP c) x) : ∀ k, k ≤ c.m → nodeL c (vl c x) k := by
  have hm := hok.1
  have rig := zK_rig hok hx
  have right : ∀ k, k < c.m → vl c x (2 * k) + (c.L k : Int) * vl c x (2 * k + 1) = (scP c c.m : Int) * x (k+1) := fun k hk => by
    rw [vl_0, vl_1, (rig k hk).1, rtL hok hk]; grind
  have hgt : ∀ k, k ≤ c.m → c.Hi k = true → x k = 0 := fun k hk h => hx.1 k (by omega) (by
    rw [frP_lo (by omega)]; exact decide_eq_false (fun z => by rw [h] at z; exact absurd z.2.2 (by decide)))
  have trn : ∀ e, e < 2 * c.m → c.Hg e = false → c.Tu ((e + 1) / 2) = true → x (esP c e) = 0 := fun e he h h' => hx.1 _ (esP_lt (by omega)).2 (by rw [frP_es he, h, h']; rfl)
  intro k hk
  refine ⟨fun b1 b2 => ?_, fun b => ⟨fun b1 => ?_, fun b1 => ?_⟩, fun b b1 b2 => ?_, fun b b1 b2 => ?_, fun b b1 b2 b3 b4 => ?_⟩
  · have := right (k-1) (by omega)
    rw [show 2 * (k - 1) = 2 * k - 2 by omega, show k - 1 + 1 = k by omega] at this
    rw [this, vl_0]
  · rw [vl_0, hgt k hk b, Int.mul_zero]
  · have := right (k-1) (by omega)
    rw [show 2 * (k - 1) = 2 * k - 2 by omega, show k - 1 + 1 = k by omega] at this
    rw [this, hgt k hk b, Int.mul_zero]
  · rw [show 2 * k - 2 + 1 = 2 * (k - 1) + 1 by omega, vl_1, (rig (k-1) (by omega)).1, ← (rig (k-1) (by omega)).2]
    exact trn _ (by omega) (by rw [show 2 * (k - 1) + 1 = 2 * k - 1 by omega]; exact b2) (by rw [show (2 * (k - 1) + 1 + 1) / 2 = k by omega]; exact b)
  · rw [vl_1]
    exact trn _ (by omega) b2 (by rw [show (2 * k + 1) / 2 = k by omega]; exact b)
  · rw [show 2 * k - 2 + 1 = 2 * (k - 1) + 1 by omega, vl_1, vl_1, (rig (k-1) (by omega)).1, ← (rig (k-1) (by omega)).2]
    congr 1
    rw [esP_odd]
    unfold esP
    rw [if_pos ⟨by omega, by omega, b4, b3⟩]
    omega
/-- and back -/
def xlh (c : mCf) (v : Nat → Int) (k : Nat) : Int := if k < c.m then v (2 * k) else v (2 * c.m - 2) + (c.L (c.m - 1) : Int) * v (2 * c.m - 2 + 1)
def xl (c : mCf) (v : Nat → Int) (s : Nat) : Int := if s < 4 then (if s ≤ c.m then xlh c v s else 0) else if s - 4 < 2 * c.m ∧ esP c (s - 4) = s then (scP c c.m : Int) * v (2 * ((s - 4) / 2) + 1) else 0
theorem xl_lo {c : mCf} (hm : c.m ≤ 3) {v : Nat → Int} {k : Nat} (hk : k ≤ c.m) : xl c v k = xlh c v k := by unfold xl; rw [if_pos (by omega), if_pos hk]
theorem xl_es {c : mCf} (hm : c.m ≤ 3) {v : Nat → Int} (hv : ∀ k, k ≤ c.m → nodeL c v k) {e : Nat} (he : e < 2 * c.m) : xl c v (esP c e) = (scP c c.m : Int) * v (2 * (e / 2) + 1) := by
  by_cases h : e % 2 = 0 ∧ 0 < e ∧ c.Hg e = false ∧ c.Hg (e - 1) = false
  · have e1 : esP c e = 4 + e - 1 := by unfold esP; rw [if_pos h]
    have e2 : esP c (e - 1) = 4 + (e - 1) := by unfold esP; rw [if_neg (fun z => by omega)]
    unfold xl
    rw [e1, if_neg (by omega), if_pos ⟨by omega, by rw [show 4 + e - 1 - 4 = e - 1 by omega, e2]; omega⟩]
    congr 1
    obtain ⟨n1, n2, n3, n4, n5⟩ := hv (e / 2) (by omega)
    rw [show 2 * ((4 + e - 1 - 4) / 2) + 1 = 2 * (e / 2) - 2 + 1 by omega]
    have g1 : c.Hg (2 * (e / 2) - 1) = false := by rw [show 2 * (e / 2) - 1 = e - 1 by omega]; exact h.2.2.2
    have g2 : c.Hg (2 * (e / 2)) = false := by rw [show 2 * (e / 2) = e by omega]; exact h.2.2.1
    cases ht : c.Tu (e / 2)
    · exact n5 ht (by omega) (by omega) g1 g2
    · rw [n3 ht (by omega) g1, n4 ht (by omega) g2]
  · have e1 : esP c e = 4 + e := by unfold esP; rw [if_neg h]
    unfold xl
    rw [e1, if_neg (by omega), if_pos ⟨by omega, by rw [show 4 + e - 4 = e by omega, e1]⟩, show 4 + e - 4 = e by omega]
theorem xlh_s {c : mCf} {v : Nat → Int} (hv : ∀ k, k ≤ c.m → nodeL c v k) {k : Nat} (hk : k < c.m) : xlh c v k = v (2 * k) ∧ xlh c v (k+1) = v (2 * k) + (c.L k : Int) * v (2 * k + 1) := by
  unfold xlh
  refine ⟨if_pos hk, ?_⟩
  by_cases e : k + 1 < c.m
  · rw [if_pos e]
    have := (hv (k+1) (by omega)).1 (by omega) e
    rw [show 2 * (k + 1) - 2 = 2 * k by omega, show k + 1 - 1 = k by omega] at this
    exact this
  · rw [if_neg e, show c.m = k + 1 by omega, show 2 * (k + 1) - 2 = 2 * k by omega, show k + 1 - 1 = k by omega]
theorem ker_LK {c : mCf} (hok : okL c) (h1 : 1 ≤ c.m) {v : Nat → Int} (hv : ∀ k, k ≤ c.m → nodeL c v k) : zKer (zK c) (frP c) (xl c v) := by
  have hm := hok.1
  refine ⟨fun s hs hf => ?_, fun r hr _ => ?_⟩
  · by_cases h4 : s < 4
    · unfold xl
      rw [if_pos h4]
      by_cases hk : s ≤ c.m
      · rw [if_pos hk]
        rw [frP_lo h4] at hf
        have hHi : c.Hi s = true := by
          cases e : c.Hi s
          · exact absurd ⟨hk, h4, e⟩ (of_decide_eq_false hf)
          · rfl
        have n2 := (hv s hk).2.1 hHi
        unfold xlh
        by_cases e : s < c.m
        · rw [if_pos e]; exact n2.1 e
        · rw [if_neg e]
          have := n2.2 e
          rw [show s = c.m by omega] at this
          exact this
      · rw [if_neg hk]
    · by_cases h5 : s - 4 < 2 * c.m ∧ esP c (s - 4) = s
      · have hf' := hf
        rw [← h5.2, frP_es h5.1] at hf'
        rw [Bool.or_eq_false_iff, Bool.not_eq_false'] at hf'
        have e1 : xl c v s = (scP c c.m : Int) * v (2 * ((s - 4) / 2) + 1) := by unfold xl; rw [if_neg h4, if_pos h5]
        rw [e1]
        have : v (2 * ((s - 4) / 2) + 1) = 0 := by
          rcases Nat.mod_two_eq_zero_or_one (s - 4) with g | g
          · have n := (hv ((s - 4) / 2) (by omega)).2.2.2.1
            exact n (by rw [show (s - 4) / 2 = (s - 4 + 1) / 2 by omega]; exact hf'.2) (by omega) (by rw [show 2 * ((s - 4) / 2) = s - 4 by omega]; exact hf'.1)
          · have n := (hv ((s - 4 + 1) / 2) (by omega)).2.2.1
            have := n hf'.2 (by omega) (by rw [show 2 * ((s - 4 + 1) / 2) - 1 = s - 4 by omega]; exact hf'.1)
            rw [show 2 * ((s - 4 + 1) / 2) - 2 + 1 = 2 * ((s - 4) / 2) + 1 by omega] at this
            exact this
        rw [this, Int.mul_zero]
      · unfold xl; rw [if_neg h4, if_neg h5]
  · rw [zK_row hm _ hr]
    refine zS_zero (fun k hk => zS_zero (fun a ha => ?_))
    have x0 : xl c v k = v (2 * k) := by rw [xl_lo hm (by omega)]; exact (xlh_s hv hk).1
    have x2 : xl c v (k+1) = v (2 * k) + (c.L k : Int) * v (2 * k + 1) := by rw [xl_lo hm (by omega)]; exact (xlh_s hv hk).2
    have x1 : xl c v (esP c (2 * k)) = (scP c c.m : Int) * v (2 * k + 1) := by rw [xl_es hm hv (by omega), show 2 * k / 2 = k by omega]
    have x3 : xl c v (esP c (2 * k + 1)) = (scP c c.m : Int) * v (2 * k + 1) := by rw [xl_es hm hv (by omega), show (2 * k + 1) / 2 = k by omega]
    have b0 : bF c (xl c v) k 0 = 0 := by rw [bF_0, x0, x1, x2, x3, rtL hok hk]; grind
    have b1 : bF c (xl c v) k 1 = 0 := by rw [bF_1, x0, x1, x2, x3, rtL hok hk]; grind
    have b3 : bF c (xl c v) k 3 = 0 := by rw [bF_3, x0, x1, x2, x3, rtL hok hk]; grind
    have b2 : bF c (xl c v) k 2 = 0 := by rw [bF_2, b0]; rfl
    split
    · rcases (by omega : a = 0 ∨ a = 1 ∨ a = 2 ∨ a = 3) with rfl | rfl | rfl | rfl
      · exact b0
      · exact b1
      · exact b2
      · exact b3
    · rfl
end ZO
