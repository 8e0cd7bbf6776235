section ZF
theorem zT_rowE (P : Nat → Nat → Int) (p q : Nat → Nat) (k : Nat) {a : Nat} (ha : a < k) (y : Nat) : zT P p q k a y = zS k (fun l => zD k (fun r b => if b = a then (if r = l then 1 else 0) else P (p r) (q b)) * P (p l) y) := by
  have h := zF_lin (fun v => zD k (fun r b => if b = a then v r else P (p r) (q b))) k (fun w v h => zD_congr (fun r b hr _ => by rw [h r hr])) (fun w v s t => zD_colL k ha (fun r b => P (p r) (q b)) w v s t) (fun r => P (p r) y)
  refine Eq.trans ?_ h
  refine zD_congr (fun r b _ _ => ?_)
  split
  · rfl
  · rfl
theorem zW.inj {K : Nat → Nat → Int} {fr : Nat → Bool} {t k : Nat} {p : Nat → Nat} {A : Nat → Nat → Int} {y : Int} {sw : Nat → Bool} (h : zW K fr t k p A y sw) : ∀ a a', a < k → a' < k → p a = p a' → a = a' := fun a a' ha ha' e => by
  rcases Nat.lt_trichotomy a a' with f | f | f
  · have := h.inc a a' f ha'; omega
  · exact f
  · have := h.inc a' a f ha; omega
/-- the inverse of the swept part -/
theorem zG_row {K : Nat → Nat → Int} {p : Nat → Nat} {k : Nat} (inj : ∀ a a', a < k → a' < k → p a = p a' → a = a') {a : Nat} (ha : a < k) (y : Nat) : zT (zQ K) p p k a y = zS k (fun l => zT (zQ K) p p k a (10 + p l) * zQ K (p l) y) := by
  rw [zT_rowE (zQ K) p p k ha y]
  refine zS_congr (fun l hl => ?_)
  congr 1
  refine zD_congr (fun r b hr _ => ?_)
  by_cases e : b = a
  · rw [if_pos e, if_pos e, zQ_u]
    by_cases e2 : r = l
    · rw [if_pos e2, if_pos (by rw [e2])]
    · rw [if_neg e2, if_neg (fun z => e2 (inj r l hr hl z))]
  · rw [if_neg e, if_neg e]
theorem zG_inv {K : Nat → Nat → Int} {p : Nat → Nat} {k : Nat} (inj : ∀ a a', a < k → a' < k → p a = p a' → a = a') (hp : ∀ a, a < k → p a < 10) {a c : Nat} (ha : a < k) (hc : c < k) : zS k (fun b => K (p a) (p b) * zT (zQ K) p p k b (10 + p c)) = if a = c then zP (zQ K) p p k else 0 := by
  have hz := zE_Z (zQ K) p p k (p a) (10 + p c)
  rw [zE_r0 (zQ K) p p k _ ha, zQ_u] at hz
  rw [zS_congr (g := fun b => zQ K (p a) (p b) * zT (zQ K) p p k b (10 + p c)) (fun b hb => by rw [zQ_lt (hp b hb)])]
  by_cases e : a = c
  · rw [if_pos e]; rw [if_pos (by rw [e])] at hz; omega
  · rw [if_neg e]; rw [if_neg (fun z => e (inj a c ha hc z))] at hz; omega
theorem zG_sym {K : Nat → Nat → Int} (hK : zSy K) {p : Nat → Nat} {k : Nat} (inj : ∀ a a', a < k → a' < k → p a = p a' → a = a') (hp : ∀ a, a < k → p a < 10) (hD : zP (zQ K) p p k ≠ 0) {c d : Nat} (hc : c < k) (hd : d < k) : zT (zQ K) p p k c (10 + p d) = zT (zQ K) p p k d (10 + p c) := by
  have e1 : zS k (fun a => zT (zQ K) p p k a (10 + p d) * zS k (fun b => K (p a) (p b) * zT (zQ K) p p k b (10 + p c))) = zP (zQ K) p p k * zT (zQ K) p p k c (10 + p d) := by
    rw [zS_one hc (fun a ha hne => by rw [zG_inv inj hp ha hc, if_neg hne, Int.mul_zero]), zG_inv inj hp hc hc, if_pos rfl, Int.mul_comm]
  have e2 : zS k (fun a => zT (zQ K) p p k a (10 + p d) * zS k (fun b => K (p a) (p b) * zT (zQ K) p p k b (10 + p c))) = zP (zQ K) p p k * zT (zQ K) p p k d (10 + p c) := by
    rw [zS_congr (g := fun a => zS k (fun b => zT (zQ K) p p k b (10 + p c) * (K (p b) (p a) * zT (zQ K) p p k a (10 + p d)))) (fun a ha => by
      rw [← zS_mul]
      refine zS_congr (fun b hb => ?_)
      rw [hK (p a) (p b) (hp a ha) (hp b hb)]
      grind), zS_swap]
    rw [zS_congr (g := fun b => zT (zQ K) p p k b (10 + p c) * zS k (fun a => K (p b) (p a) * zT (zQ K) p p k a (10 + p d))) (fun b _ => zS_mul _ _ _)]
    rw [zS_one hd (fun b hb hne => by rw [zG_inv inj hp hb hd, if_neg hne, Int.mul_zero]), zG_inv inj hp hd hd, if_pos rfl, Int.mul_comm]
  rw [e1] at e2
  exact Int.eq_of_mul_eq_mul_left hD e2
theorem zW.cl {K : Nat → Nat → Int} (hK : zSy K) {fr : Nat → Bool} {t k : Nat} {p : Nat → Nat} {A : Nat → Nat → Int} {y : Int} {sw : Nat → Bool} (h : zW K fr t k p A y sw) (ht : t ≤ 10) {a b : Nat} (ha : a < k) (hb : b < k) : clP A (p a) (p b) = -zT (zQ K) p p k a (10 + p b) := by
  have hp10 : ∀ a, a < k → p a < 10 := fun a ha => by have := (h.hp a ha).1; omega
  have hD : zP (zQ K) p p k ≠ 0 := by rw [h.pv]; have := h.pos; omega
  have le : ∀ a b, b ≤ a → a < k → p b ≤ p a := fun a b hab ha => by
    rcases Nat.eq_or_lt_of_le hab with e | e
    · rw [e]; exact Nat.le_refl _
    · exact Nat.le_of_lt (h.inc b a e ha)
  rcases Nat.le_total b a with e | e
  · rw [clP_ge (le a b e ha)]; exact h.ss a b ha e
  · rw [clP_sym, clP_ge (le b a e hb), h.ss b a hb e, zG_sym hK h.inj hp10 hD hb ha]
/-- moves without load -/
def zKer (K : Nat → Nat → Int) (fr : Nat → Bool) (x : Nat → Int) : Prop := (∀ l, l < 10 → fr l = false → x l = 0) ∧ ∀ r, r < 10 → fr r = true → zS 10 (fun l => K r l * x l) = 0
theorem slG_iff {fr sw : Nat → Bool} {A : Nat → Nat → Int} {s : Nat} : ∀ n, slG fr sw A s n = true ↔ ∃ o, o < n ∧ fr o = true ∧ sw o = false ∧ clP A s o ≠ 0
  | 0 => ⟨fun h => absurd (show false = true from h) (by decide), fun ⟨o, h, _⟩ => by omega⟩
  | n + 1 => by
    unfold slG
    rw [Bool.or_eq_true, slG_iff n, Bool.and_eq_true, Bool.and_eq_true, decide_eq_true_iff, Bool.not_eq_true']
    constructor
    · rintro (⟨o, h1, h2⟩ | ⟨h1, h2, h3⟩)
      · exact ⟨o, by omega, h2⟩
      · exact ⟨n, by omega, h1, h2, h3⟩
    · rintro ⟨o, h1, h2, h3, h4⟩
      by_cases e : o = n
      · subst e; exact Or.inr ⟨h2, h3, h4⟩
      · exact Or.inl ⟨o, by omega, h2, h3, h4⟩
theorem zW.left {K : Nat → Nat → Int} {fr : Nat → Bool} {k : Nat} {p : Nat → Nat} {A : Nat → Nat → Int} {y : Int} {sw : Nat → Bool} (h : zW K fr 10 k p A y sw) {a : Nat} (ha : a < k) (x : Nat → Int) : zS 10 (fun j => zT (zQ K) p p k a j * x j) = zS k (fun l => zT (zQ K) p p k a (10 + p l) * zS 10 (fun j => K (p l) j * x j)) := by
  rw [zS_congr (g := fun j => zS k (fun l => zT (zQ K) p p k a (10 + p l) * (K (p l) j * x j))) (fun j hj => by
    rw [zG_row h.inj ha j, Int.mul_comm, ← zS_mul]
    refine zS_congr (fun l _ => ?_)
    rw [zQ_lt hj]; grind), zS_swap]
  exact zS_congr (fun l _ => zS_mul _ _ _)
theorem zW.xs {K : Nat → Nat → Int} {fr : Nat → Bool} {t k : Nat} {p : Nat → Nat} {A : Nat → Nat → Int} {y : Int} {sw : Nat → Bool} (h : zW K fr t k p A y sw) {a o : Nat} (ha : a < k) (ho : p a ≠ o) : zX K p k o (p a) = -zT (zQ K) p p k a o := by
  unfold zX
  rw [zS_one ha (fun b hb hne => if_neg (fun z => hne (h.inj b a hb ha z))), if_pos rfl, if_neg ho, Int.add_zero]
theorem zW.xo {K : Nat → Nat → Int} {fr : Nat → Bool} {t k : Nat} {p : Nat → Nat} {A : Nat → Nat → Int} {y : Int} {sw : Nat → Bool} (h : zW K fr t k p A y sw) {l o : Nat} (hl : sw l = false) : zX K p k o l = if l = o then y else 0 := by
  unfold zX
  rw [zS_zero (fun b hb => if_neg (fun z => by have := (h.hp b hb).2.2; rw [z, hl] at this; exact absurd this (by decide))), h.pv, Int.zero_add]
theorem zW.ker {K : Nat → Nat → Int} {fr : Nat → Bool} {k : Nat} {p : Nat → Nat} {A : Nat → Nat → Int} {y : Int} {sw : Nat → Bool} (h : zW K fr 10 k p A y sw) {o : Nat} (ho : o < 10) (fo : fr o = true) (so : sw o = false) : zKer K fr (zX K p k o) := by
  refine ⟨fun l hl fl => ?_, fun r hr fr' => ?_⟩
  · have hsl : sw l = false := by
      cases e : sw l
      · rfl
      · obtain ⟨a, ha, hpa⟩ := h.sj l e
        have := (h.hp a ha).2.1
        rw [hpa, fl] at this; exact absurd this (by decide)
    rw [h.xo hsl, if_neg (fun e => by rw [e, fo] at fl; exact absurd fl (by decide))]
  · rw [zX_K (fun a ha => (h.hp a ha).1) ho]
    cases e : sw r
    · exact h.sk r o hr fr' e ho fo
    · obtain ⟨a, ha, hpa⟩ := h.sj r e
      rw [← hpa]; exact zE_r0 (zQ K) p p k o ha
/-- a slot is slack where a move without load moves it -/
theorem zW.slack {K : Nat → Nat → Int} {fr : Nat → Bool} {k : Nat} {p : Nat → Nat} {A : Nat → Nat → Int} {y : Int} {sw : Nat → Bool} (h : zW K fr 10 k p A y sw) {s : Nat} (hs : s < 10) : slS fr sw A s = true ↔ fr s = true ∧ ∃ x, zKer K fr x ∧ x s ≠ 0 := by
  have hy : y ≠ 0 := by have := h.pos; omega
  unfold slS
  cases ef : fr s
  · rw [if_neg (fun z => absurd z.1 (by decide))]
    exact ⟨fun z => absurd z (by decide), fun z => absurd z.1 (by decide)⟩
  · cases es : sw s
    · rw [if_neg (fun z => absurd z.2 (by decide))]
      refine ⟨fun _ => ⟨rfl, zX K p k s, h.ker hs ef es, ?_⟩, fun _ => rfl⟩
      rw [h.xo es, if_pos rfl]; exact hy
    · rw [if_pos ⟨rfl, rfl⟩, slG_iff]
      obtain ⟨a, ha, hpa⟩ := h.sj s es
      constructor
      · rintro ⟨o, h1, h2, h3, h4⟩
        refine ⟨rfl, zX K p k o, h.ker h1 h2 h3, ?_⟩
        have hne : p a ≠ o := fun e => by rw [← hpa, e, h3] at es; exact absurd es (by decide)
        rw [← hpa, h.xs ha hne]
        rw [← hpa, h.su a o ha h1 h2 h3] at h4
        omega
      · rintro ⟨_, x, hx, hxs⟩
        refine Classical.byContradiction (fun hno => hxs ?_)
        have e1 := h.left ha x
        rw [zS_zero (n := k) (fun l hl => by rw [hx.2 (p l) (h.hp l hl).1 (h.hp l hl).2.1, Int.mul_zero])] at e1
        rw [zS_one (p := s) hs ?_] at e1
        · rw [← hpa, zT_d, h.pv] at e1
          rcases Int.mul_eq_zero.mp e1 with e | e
          · exact absurd e hy
          · rw [← hpa]; exact e
        · intro j hj hjs
          cases fj : fr j
          · rw [hx.1 j hj fj, Int.mul_zero]
          · cases sj : sw j
            · have : clP A s j = 0 := Classical.byContradiction (fun hne => hno ⟨j, hj, fj, sj, hne⟩)
              rw [← hpa, h.su a j ha hj fj sj] at this
              rw [this, Int.zero_mul]
            · obtain ⟨b, hb, hpb⟩ := h.sj j sj
              rw [← hpb, zT_0 (zQ K) p p k ha hb (fun e => by rw [e, hpb] at hpa; exact hjs hpa), Int.zero_mul]
/-- all are swept: the numbers are the inverse -/
theorem zW.inv {K : Nat → Nat → Int} (hK : zSy K) {fr : Nat → Bool} {k : Nat} {p : Nat → Nat} {A : Nat → Nat → Int} {y : Int} {sw : Nat → Bool} (h : zW K fr 10 k p A y sw) (hall : ∀ s, s < 10 → fr s = true → sw s = true) (x : Nat → Int) (hx : ∀ l, l < 10 → fr l = false → x l = 0) {i : Nat} (hi : i < 10) (fi : fr i = true) : y * x i = zS 10 (fun j => if fr j = true then clP A i j * -(zS 10 (fun l => K j l * x l)) else 0) := by
  obtain ⟨a, ha, hpa⟩ := h.sj i (hall i hi fi)
  have e1 := h.left ha x
  rw [zS_one (p := i) hi ?_] at e1
  · rw [← hpa, zT_d, h.pv, hpa] at e1
    rw [e1]
    have e2 : ∀ f : Nat → Int, zS 10 (fun j => if fr j = true then f j else 0) = zS k (fun b => f (p b)) := by
      intro f
      have e3 := zX_sum (p := p) (k := k) (j := 0) (fun _ => 1) 0 (fun a ha => (h.hp a ha).1) (by decide) f
      rw [zS_congr (n := k) (g := fun b => f (p b)) (fun b _ => by rw [Int.one_mul]), Int.zero_mul, Int.add_zero] at e3
      rw [← e3]
      refine zS_congr (fun l hl => ?_)
      cases fl : fr l
      · rw [if_neg (by decide), zS_zero (fun b hb => if_neg (fun z => by have := (h.hp b hb).2.1; rw [z, fl] at this; exact absurd this (by decide)))]
        split <;> omega
      · obtain ⟨b, hb, hpb⟩ := h.sj l (hall l hl fl)
        rw [if_pos rfl, zS_one hb (fun b' hb' hne => if_neg (fun z => hne (h.inj b' b hb' hb (by rw [z, hpb])))), if_pos hpb]
        split <;> omega
    rw [e2]
    refine zS_congr (fun b hb => ?_)
    rw [← hpa, h.cl hK (Nat.le_refl _) ha hb]
    rw [Int.neg_mul_neg]
  · intro j hj hji
    cases fj : fr j
    · rw [hx j hj fj, Int.mul_zero]
    · obtain ⟨b, hb, hpb⟩ := h.sj j (hall j hj fj)
      rw [← hpb, zT_0 (zQ K) p p k ha hb (fun e => by rw [e, hpb] at hpa; exact hji hpa), Int.zero_mul]
/-- the numbers stay small -/
theorem zW.kt {K : Nat → Nat → Int} {fr : Nat → Bool} {t k : Nat} {p : Nat → Nat} {A : Nat → Nat → Int} {y : Int} {sw : Nat → Bool} (h : zW K fr t k p A y sw) : ∀ a, a < k → a ≤ p a ∧ p a + (k - a) ≤ t := by
  have h1 : ∀ a, a < k → a ≤ p a := by
    intro a
    induction a with
    | zero => intro _; omega
    | succ a ih => intro ha; have := ih (by omega); have := h.inc a (a+1) (by omega) ha; omega
  have h2 : ∀ d a, a + d + 1 = k → p a + (k - a) ≤ t := by
    intro d
    induction d with
    | zero => intro a ha; have := (h.hp a (by omega)).1; omega
    | succ d ih => intro a ha; have := ih (a+1) (by omega); have := h.inc a (a+1) (by omega) (by omega); omega
  exact fun a ha => ⟨h1 a ha, h2 (k - a - 1) a (by omega)⟩
theorem zW.k9 {K : Nat → Nat → Int} {fr : Nat → Bool} {t k : Nat} {p : Nat → Nat} {A : Nat → Nat → Int} {y : Int} {sw : Nat → Bool} (h : zW K fr t k p A y sw) (ht : t ≤ 10) : k ≤ 10 ∧ ∀ i, i < 10 → sw i = false → k ≤ 9 := by
  have h0 : k ≤ 10 := by
    by_cases e : k = 0
    · omega
    · have := h.kt 0 (by omega); omega
  refine ⟨h0, fun i hi hs => Classical.byContradiction (fun hk => ?_)⟩
  have := h.kt i (by omega)
  have e : p i = i := by omega
  have := (h.hp i (by omega)).2.2
  rw [e, hs] at this; exact absurd this (by decide)
theorem zW.bd {K : Nat → Nat → Int} (hb : ∀ i j, i < 10 → j < 10 → (K i j).natAbs ≤ 4100000000) {fr : Nat → Bool} {t k : Nat} {p : Nat → Nat} {A : Nat → Nat → Int} {y : Int} {sw : Nat → Bool} (h : zW K fr t k p A y sw) (ht : t ≤ 10) : (∀ i j, i < 10 → j ≤ i → (A i j).natAbs < B9 ^ 12) ∧ y.natAbs < B9 ^ 12 := by
  have hp10 : ∀ a, a < k → p a < 10 := fun a ha => by have := (h.hp a ha).1; omega
  have hk := h.k9 ht
  have hQ : ∀ i j, i < 10 → (zQ K i j).natAbs ≤ 4100000000 := fun i j hi => by
    unfold zQ
    split
    · exact hb i j hi (by assumption)
    · split <;> decide
  have hbig : ∀ n, n ≤ 10 → 41000000000 ^ n < B9 ^ 12 := fun n hn => Nat.lt_of_le_of_lt (Nat.pow_le_pow_right (by decide) hn) (by decide)
  have hT : ∀ a z, (zT (zQ K) p p k a z).natAbs < B9 ^ 12 := fun a z => by
    refine Nat.lt_of_le_of_lt (zD_u k _ 41000000000 (fun r b hr _ => ?_)) (hbig k hk.1)
    have := Nat.mul_le_mul (hQ (p r) (if b = a then z else p b) (hp10 r hr)) hk.1
    omega
  have hE : ∀ i z, i < 10 → sw i = false → (zE (zQ K) p p k i z).natAbs < B9 ^ 12 := fun i z hi si => by
    have hk9 := hk.2 i hi si
    refine Nat.lt_of_le_of_lt (zD_u (k+1) _ 41000000000 (fun r b hr _ => ?_)) (hbig (k+1) (by omega))
    have := Nat.mul_le_mul (hQ (if r < k then p r else i) (if b < k then p b else z) (by
      split
      · exact hp10 r (by assumption)
      · exact hi)) (show k + 1 ≤ 10 by omega)
    omega
  have hy : y.natAbs < B9 ^ 12 := by
    rw [← h.pv]
    refine Nat.lt_of_le_of_lt (zD_u k _ 41000000000 (fun r b hr _ => ?_)) (hbig k hk.1)
    have := Nat.mul_le_mul (hQ (p r) (p b) (hp10 r hr)) hk.1
    omega
  refine ⟨fun i j hi hj => ?_, hy⟩
  cases fi : fr i
  · rw [h.nf i j (Or.inl fi)]; exact Nat.lt_of_le_of_lt (hb i j hi (by omega)) (by decide)
  · cases fj : fr j
    · rw [h.nf i j (Or.inr fj)]; exact Nat.lt_of_le_of_lt (hb i j hi (by omega)) (by decide)
    · rw [← clP_ge (A := A) hj]
      cases si : sw i
      · cases sj : sw j
        · rw [h.uu i j hi (by omega) fi fj si sj]; exact hE i j hi si
        · obtain ⟨b, hb', hpb⟩ := h.sj j sj
          rw [clP_sym, ← hpb, h.su b i hb' hi fi si]; exact hT _ _
      · obtain ⟨a, ha, hpa⟩ := h.sj i si
        cases sj : sw j
        · rw [← hpa, h.su a j ha (by omega) fj sj]; exact hT _ _
        · obtain ⟨b, hb', hpb⟩ := h.sj j sj
          have hab : b ≤ a := by
            refine Classical.byContradiction (fun hn => ?_)
            have := h.inc a b (by omega) hb'
            omega
          rw [clP_ge hj, ← hpa, ← hpb, h.ss a b ha hab, Int.natAbs_neg]; exact hT _ _
end ZF
