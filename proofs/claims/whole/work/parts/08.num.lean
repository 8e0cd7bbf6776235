section XN
/-! Numbers in limbs of nine digits. -/
abbrev B9 : Nat := 1000000000
def val (f : Nat → Nat) : Nat → Nat
  | 0 => 0
  | n + 1 => val f n + f n * B9 ^ n
def dg (a j : Nat) : Nat := a / B9 ^ j % B9
theorem B9_pos (n : Nat) : 0 < B9 ^ n := Nat.pow_pos (by decide)
theorem B9_succ (n : Nat) : B9 ^ (n + 1) = B9 ^ n * B9 := Nat.pow_succ ..
theorem B9_mono {m n : Nat} (h : m ≤ n) : B9 ^ m ≤ B9 ^ n := Nat.pow_le_pow_right (by decide) h
theorem dg_lt (a j : Nat) : dg a j < B9 := Nat.mod_lt _ (by decide)
theorem val_congr {f g : Nat → Nat} {n : Nat} (h : ∀ j, j < n → f j = g j) : val f n = val g n := by
  induction n with
  | zero => rfl
  | succ n ih => simp only [val]; rw [ih (fun j hj => h j (by omega)), h n (by omega)]
theorem val_lt {f : Nat → Nat} {n : Nat} (h : ∀ j, j < n → f j < B9) : val f n < B9 ^ n := by
  induction n with
  | zero => simp [val]
  | succ n ih =>
    have h1 := ih (fun j hj => h j (by omega))
    have h2 := h n (by omega)
    rw [B9_succ]
    simp only [val]
    have h3 : f n * B9 ^ n ≤ (B9 - 1) * B9 ^ n := Nat.mul_le_mul_right _ (by omega)
    have h4 : (B9 - 1) * B9 ^ n + B9 ^ n = B9 ^ n * B9 := by
      rw [← Nat.succ_mul, Nat.mul_comm]
      rfl
    omega
theorem val_dg_mod (a n : Nat) : val (dg a) n = a % B9 ^ n := by
  induction n with
  | zero => simp [val, Nat.mod_one]
  | succ n ih =>
    simp only [val]
    rw [ih, B9_succ, Nat.mod_mul, dg, Nat.mul_comm]
theorem val_dg {a n : Nat} (h : a < B9 ^ n) : val (dg a) n = a := by rw [val_dg_mod, Nat.mod_eq_of_lt h]
theorem dg_val {f : Nat → Nat} {n : Nat} (h : ∀ j, j < n → f j < B9) : ∀ {j : Nat}, j < n → dg (val f n) j = f j := by
  induction n with
  | zero => intro j hj; exact absurd hj (Nat.not_lt_zero _)
  | succ n ih =>
    intro j hj
    have h1 : val f n < B9 ^ n := val_lt (fun j hj => h j (by omega))
    simp only [val]
    by_cases e : j = n
    · subst e
      unfold dg
      rw [Nat.add_mul_div_right _ _ (B9_pos j), Nat.div_eq_of_lt h1, Nat.zero_add, Nat.mod_eq_of_lt (h j (by omega))]
    · have hjn : j < n := by omega
      rw [← ih (fun j hj => h j (by omega)) hjn]
      unfold dg
      obtain ⟨k, rfl⟩ : ∃ k, n = j + 1 + k := ⟨n - (j + 1), by omega⟩
      have e2 : f (j + 1 + k) * B9 ^ (j + 1 + k) = (f (j + 1 + k) * B9 ^ k * B9) * B9 ^ j := by
        rw [Nat.pow_add, Nat.pow_succ]
        generalize B9 ^ j = x
        generalize B9 ^ k = y
        generalize f (j + 1 + k) = z
        rw [Nat.mul_comm x B9, Nat.mul_comm (B9 * x) y, ← Nat.mul_assoc, ← Nat.mul_assoc]
      rw [e2, Nat.add_mul_div_right _ _ (B9_pos j), Nat.add_mul_mod_self_right]
theorem dg_hi {a j : Nat} (h : a < B9 ^ j) : dg a j = 0 := by unfold dg; rw [Nat.div_eq_of_lt h]; rfl
/-- a has just n limbs -/
def nl (a n : Nat) : Prop := a < B9 ^ n ∧ (n = 0 ∨ B9 ^ (n - 1) ≤ a)
theorem nl_uniq {a m n : Nat} (h1 : nl a m) (h2 : nl a n) : m = n := by
  obtain ⟨a1, a2⟩ := h1
  obtain ⟨b1, b2⟩ := h2
  rcases Nat.lt_trichotomy m n with h | h | h
  · exfalso
    rcases b2 with e | e
    · omega
    · have := B9_mono (show m ≤ n - 1 by omega)
      omega
  · exact h
  · exfalso
    rcases a2 with e | e
    · omega
    · have := B9_mono (show n ≤ m - 1 by omega)
      omega
theorem nl_zero : nl 0 0 := ⟨by simp, Or.inl rfl⟩
theorem nl_zero_iff {a n : Nat} (h : nl a n) : n = 0 ↔ a = 0 := by
  constructor
  · intro e
    have := h.1
    subst e
    simp at this
    exact this
  · intro e
    subst e
    exact nl_uniq h nl_zero
theorem nl_top {a n : Nat} (h : nl a (n + 1)) : dg a n ≠ 0 := by
  obtain ⟨h1, h2⟩ := h
  rcases h2 with h2 | h2
  · omega
  · have h2 : B9 ^ n ≤ a := h2
    rw [B9_succ] at h1
    unfold dg
    have h3 : a / B9 ^ n < B9 := Nat.div_lt_of_lt_mul h1
    rw [Nat.mod_eq_of_lt h3]
    have := Nat.div_pos h2 (B9_pos n)
    omega
theorem nl_exists (a : Nat) : ∃ n, nl a n := by
  by_cases h : a = 0
  · exact ⟨0, by rw [h]; exact nl_zero⟩
  · have hex : ∃ n, a < B9 ^ n := ⟨a, Nat.lt_pow_self (by decide)⟩
    obtain ⟨n, hn, hmin⟩ := pk_least (fun n => a < B9 ^ n) hex
    refine ⟨n, hn, ?_⟩
    rcases Nat.eq_zero_or_pos n with e | e
    · exact Or.inl e
    · exact Or.inr (Nat.not_lt.mp (hmin (n - 1) (by omega)))
theorem nl_of_le {a n m : Nat} (h : nl a n) (hm : a < B9 ^ m) : n ≤ m := by
  rcases h.2 with e | e
  · omega
  · rcases Nat.lt_or_ge m n with h2 | h2
    · have := B9_mono (show m ≤ n - 1 by omega)
      omega
    · exact h2
/-- the sign of a number -/
def sg (v : Int) : Int32 := if v < 0 then -1 else if v = 0 then 0 else 1
theorem sg_zero : sg 0 = 0 := rfl
theorem sg_pos {v : Int} (h : 0 < v) : sg v = 1 := by unfold sg; rw [if_neg (by omega), if_neg (by omega)]
theorem sg_neg {v : Int} (h : v < 0) : sg v = -1 := by unfold sg; rw [if_pos h]
theorem sg_eq_zero {v : Int} : sg v = 0 ↔ v = 0 := by
  constructor
  · intro h
    rcases Int.lt_trichotomy v 0 with e | e | e
    · rw [sg_neg e] at h; exact absurd h (by decide)
    · exact e
    · rw [sg_pos e] at h; exact absurd h (by decide)
  · intro h; subst h; rfl
/-- register r of the reference holds v -/
def Reg (σ : mS) (r : Nat) (v : Int) : Prop := ∃ n, n ≤ 400 ∧ nl v.natAbs n ∧ σ.2.1 15 r = nI n ∧ σ.2.1 16 r = sg v ∧ ∀ j, j < n → σ.2.1 14 (400 * r + j) = nI (dg v.natAbs j)
/-- nothing but register b has changed -/
def keep (b : Nat) (σ σ' : mS) : Prop := σ'.1 = σ.1 ∧ σ'.2.2 = σ.2.2 ∧ (∀ k, k ≠ 14 → k ≠ 15 → k ≠ 16 → σ'.2.1 k = σ.2.1 k) ∧ (∀ r, r ≠ b → σ'.2.1 15 r = σ.2.1 15 r ∧ σ'.2.1 16 r = σ.2.1 16 r) ∧ ∀ j, (j < 400 * b ∨ 400 * b + 400 ≤ j) → σ'.2.1 14 j = σ.2.1 14 j
theorem keep.rfl' {b : Nat} {σ : mS} : keep b σ σ := ⟨rfl, rfl, fun _ _ _ _ => rfl, fun _ _ => ⟨rfl, rfl⟩, fun _ _ => rfl⟩
theorem keep.trans {b : Nat} {σ σ' σ'' : mS} (h : keep b σ σ') (h2 : keep b σ' σ'') : keep b σ σ'' :=
  ⟨h2.1.trans h.1, h2.2.1.trans h.2.1, fun k a b c => (h2.2.2.1 k a b c).trans (h.2.2.1 k a b c), fun r hr => ⟨(h2.2.2.2.1 r hr).1.trans (h.2.2.2.1 r hr).1, (h2.2.2.2.1 r hr).2.trans (h.2.2.2.1 r hr).2⟩, fun j hj => (h2.2.2.2.2 j hj).trans (h.2.2.2.2 j hj)⟩
theorem keep.reg {b r : Nat} {σ σ' : mS} {v : Int} (h : keep b σ σ') (hr : r ≠ b) (hv : Reg σ r v) : Reg σ' r v := by
  obtain ⟨n, h1, h2, h3, h4, h5⟩ := hv
  refine ⟨n, h1, h2, (h.2.2.2.1 r hr).1.trans h3, (h.2.2.2.1 r hr).2.trans h4, fun j hj => ?_⟩
  rw [h.2.2.2.2 _ (by omega)]
  exact h5 j hj
theorem keep.limb {b j : Nat} {x : Int32} {σ : mS} (h1 : 400 * b ≤ j) (h2 : j < 400 * b + 400) : keep b σ (σ.1, mu σ.2.1 14 (upd (σ.2.1 14) j x), σ.2.2) := by
  refine ⟨rfl, rfl, fun k a _ _ => mu_n a, fun r _ => ⟨?_, ?_⟩, fun i hi => ?_⟩
  · show mu σ.2.1 14 (upd (σ.2.1 14) j x) 15 r = σ.2.1 15 r
    rw [mu_n (by decide)]
  · show mu σ.2.1 14 (upd (σ.2.1 14) j x) 16 r = σ.2.1 16 r
    rw [mu_n (by decide)]
  · show mu σ.2.1 14 (upd (σ.2.1 14) j x) 14 i = σ.2.1 14 i
    rw [mu_s, pk_un (by omega)]
theorem keep.size {b : Nat} {x : Int32} {σ : mS} : keep b σ (σ.1, mu σ.2.1 15 (upd (σ.2.1 15) b x), σ.2.2) := by
  refine ⟨rfl, rfl, fun k _ a _ => mu_n a, fun r hr => ⟨?_, ?_⟩, fun i hi => ?_⟩
  · show mu σ.2.1 15 (upd (σ.2.1 15) b x) 15 r = σ.2.1 15 r
    rw [mu_s, pk_un hr]
  · show mu σ.2.1 15 (upd (σ.2.1 15) b x) 16 r = σ.2.1 16 r
    rw [mu_n (by decide)]
  · show mu σ.2.1 15 (upd (σ.2.1 15) b x) 14 i = σ.2.1 14 i
    rw [mu_n (by decide)]
theorem keep.sign {b : Nat} {x : Int32} {σ : mS} : keep b σ (σ.1, mu σ.2.1 16 (upd (σ.2.1 16) b x), σ.2.2) := by
  refine ⟨rfl, rfl, fun k _ _ a => mu_n a, fun r hr => ⟨?_, ?_⟩, fun i hi => ?_⟩
  · show mu σ.2.1 16 (upd (σ.2.1 16) b x) 15 r = σ.2.1 15 r
    rw [mu_n (by decide)]
  · show mu σ.2.1 16 (upd (σ.2.1 16) b x) 16 r = σ.2.1 16 r
    rw [mu_s, pk_un hr]
  · show mu σ.2.1 16 (upd (σ.2.1 16) b x) 14 i = σ.2.1 14 i
    rw [mu_n (by decide)]
end XN
section XN2
variable {G : xG} {l : Launch} {Y : xY} {d : Nat} {Q : xPost} {pc q : Nat} {ls ls' : List (Nat × Value)} {st : List Value} {M M0 : xM} {N S : Nat} {o : Nat} {as : Nat → Nat} {σ : mS}
theorem m_limb (hM : mAt o as σ M0 M) (b : Nat) {j : Nat} {x : Int32} (hd : decode Y.2.1 pc = .ok (.iastore, 1)) (hq : pc + 1 = q) (hb : b < 16) (h1 : 400 * b ≤ j) (h2 : j < 400 * b + 400) (kk : ∀ (M' : xM) (σ' : mS), keep b σ σ' → σ'.2.1 14 j = x → (∀ i, i ≠ j → σ'.2.1 14 i = σ.2.1 14 i) → σ'.2.1 15 = σ.2.1 15 → σ'.2.1 16 = σ.2.1 16 → mAt o as σ' M0 M' → xX G l Y d Q q ls st M' N S) : xX G l Y d Q pc ls (.int x :: .int (nI j) :: .ref (as 14) :: st) M N S := by
  refine m_iast (n := 6400) hM (by decide) hd hq (by omega) (fun M' hM' => kk M' _ (keep.limb h1 h2) ?_ ?_ ?_ ?_ hM')
  · show mu σ.2.1 14 (upd (σ.2.1 14) j x) 14 j = x
    rw [mu_s, pk_us]
  · intro i hi
    show mu σ.2.1 14 (upd (σ.2.1 14) j x) 14 i = σ.2.1 14 i
    rw [mu_s, pk_un hi]
  · show mu σ.2.1 14 (upd (σ.2.1 14) j x) 15 = σ.2.1 15
    rw [mu_n (by decide)]
  · show mu σ.2.1 14 (upd (σ.2.1 14) j x) 16 = σ.2.1 16
    rw [mu_n (by decide)]
theorem m_size (hM : mAt o as σ M0 M) {b : Nat} {x : Int32} (hd : decode Y.2.1 pc = .ok (.iastore, 1)) (hq : pc + 1 = q) (hb : b < 16) (kk : ∀ (M' : xM) (σ' : mS), keep b σ σ' → σ'.2.1 15 b = x → σ'.2.1 14 = σ.2.1 14 → σ'.2.1 16 = σ.2.1 16 → mAt o as σ' M0 M' → xX G l Y d Q q ls st M' N S) : xX G l Y d Q pc ls (.int x :: .int (nI b) :: .ref (as 15) :: st) M N S := by
  refine m_iast (n := 16) hM (by decide) hd hq (by omega) (fun M' hM' => kk M' _ keep.size ?_ ?_ ?_ hM')
  · show mu σ.2.1 15 (upd (σ.2.1 15) b x) 15 b = x
    rw [mu_s, pk_us]
  · show mu σ.2.1 15 (upd (σ.2.1 15) b x) 14 = σ.2.1 14
    rw [mu_n (by decide)]
  · show mu σ.2.1 15 (upd (σ.2.1 15) b x) 16 = σ.2.1 16
    rw [mu_n (by decide)]
theorem m_sign (hM : mAt o as σ M0 M) {b : Nat} {x : Int32} (hd : decode Y.2.1 pc = .ok (.iastore, 1)) (hq : pc + 1 = q) (hb : b < 16) (kk : ∀ (M' : xM) (σ' : mS), keep b σ σ' → σ'.2.1 16 b = x → σ'.2.1 14 = σ.2.1 14 → σ'.2.1 15 = σ.2.1 15 → mAt o as σ' M0 M' → xX G l Y d Q q ls st M' N S) : xX G l Y d Q pc ls (.int x :: .int (nI b) :: .ref (as 16) :: st) M N S := by
  refine m_iast (n := 16) hM (by decide) hd hq (by omega) (fun M' hM' => kk M' _ keep.sign ?_ ?_ ?_ hM')
  · show mu σ.2.1 16 (upd (σ.2.1 16) b x) 16 b = x
    rw [mu_s, pk_us]
  · show mu σ.2.1 16 (upd (σ.2.1 16) b x) 14 = σ.2.1 14
    rw [mu_n (by decide)]
  · show mu σ.2.1 16 (upd (σ.2.1 16) b x) 15 = σ.2.1 15
    rw [mu_n (by decide)]
/-- limbs that tell a number, and its sign and size: the register holds it -/
theorem Reg.mk {σ : mS} {r n m : Nat} {v : Int} {f : Nat → Nat} (hm : n ≤ 400) (hnm : n ≤ m) (hf : ∀ j, j < m → f j < B9) (hv : v.natAbs = val f m) (hz : ∀ j, n ≤ j → j < m → f j = 0) (ht : n = 0 ∨ f (n - 1) ≠ 0) (h1 : σ.2.1 15 r = nI n) (h2 : σ.2.1 16 r = sg v) (h3 : ∀ j, j < n → σ.2.1 14 (400 * r + j) = nI (f j)) : Reg σ r v := by
  have hvn : val f m = val f n := by
    clear hv h1 h2 h3 ht
    induction m with
    | zero => obtain rfl : n = 0 := by omega
              rfl
    | succ m ih =>
      by_cases e : n = m + 1
      · rw [e]
      · rw [← ih (by omega) (fun j hj => hf j (by omega)) (fun j h1 h2 => hz j h1 (by omega))]
        simp only [val]
        rw [hz m (by omega) (by omega)]
        omega
  have hfn : ∀ j, j < n → f j < B9 := fun j hj => hf j (by omega)
  refine ⟨n, hm, ⟨by rw [hv, hvn]; exact val_lt hfn, ?_⟩, h1, h2, fun j hj => ?_⟩
  · rcases ht with e | e
    · exact Or.inl e
    · by_cases e0 : n = 0
      · exact Or.inl e0
      · right
        rw [hv, hvn]
        obtain ⟨k, rfl⟩ : ∃ k, n = k + 1 := ⟨n - 1, by omega⟩
        rw [Nat.add_sub_cancel] at e ⊢
        simp only [val]
        have : 1 * B9 ^ k ≤ f k * B9 ^ k := Nat.mul_le_mul_right _ (by omega)
        omega
  · rw [h3 j hj, hv, hvn, dg_val hfn hj]
end XN2
