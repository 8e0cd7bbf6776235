section XV
/-! The class's objects: ids 0..39 are objects and fixed arrays, 100..179 the whole numbers (Big), 200..279 their limbs.
0 rows, 1 beams, 2 draft, 3 sheet, 4 frame, 5 probe, 6 mirror, 7 areas, 8 ratio, 9 and 10 divisors, 11..13 rowWhat rowBeam rowPlace, 14..19 beams' arrays, 20..25 draft's, 26 signs, 27 corner, 28 endSlot, 29 free, 30 swept, 31 slackNode, 32 pull, 33 cell, 34..36 probe's left right asked, 37..39 mirror's. -/
abbrev oS : Type := (Nat → Int32) × (Nat → Int64) × (Nat → Nat)
abbrev cZ : Type := Nat → oS
abbrev bmE (ad : Nat → Nat) (k : Nat) (s : oS) : xE := .inr (4, [.ref (ad (8 + 6 * k)), .ref (ad (9 + 6 * k)), .ref (ad (10 + 6 * k)), .ref (ad (11 + 6 * k)), .ref (ad (12 + 6 * k)), .ref (ad (13 + 6 * k)), .int (s.1 6)])
abbrev prE (ad : Nat → Nat) (k : Nat) (s : oS) : xE := .inr (8, [.ref (ad 1), .ref (ad 4), .ref (ad (19 + 3 * k)), .ref (ad (20 + 3 * k)), .ref (ad (21 + 3 * k)), .ref (ad (155 + k)), .int (s.1 6), .int (s.1 7), .int (s.1 8), .int (s.1 9), .int (s.1 10), .long (s.2.1 11), .long (s.2.1 12)])
abbrev dvE (ad : Nat → Nat) (k : Nat) (s : oS) : xE := .inr (6, [.ref (ad (147 + 3 * k)), .ref (ad (s.2.2 1)), .ref (ad (s.2.2 2))])
abbrev iaE (n : Nat) (s : oS) : xE := .inl (.int, n, .inl s.1)
abbrev zaE (n : Nat) (s : oS) : xE := .inl (.boolean, n, .inl s.1)
abbrev laE (n : Nat) (s : oS) : xE := .inl (.long, n, .inr (.inl s.2.1))
abbrev bgE (s : oS) : xE := .inr (5, [.int (s.1 0), .int (s.1 1), .ref (s.2.2 0)])
def cT (ad : Nat → Nat) (s : oS) : List xE := [
  .inr (11, [.ref (ad 1), .ref (ad 2), .ref (ad 3), .ref (ad 4), .ref (ad 5), .ref (ad 6), .ref (ad 7), .ref (ad 8), .ref (ad 159), .ref (ad 11), .ref (ad 12), .ref (ad 13), .int (s.1 12), .long (s.2.1 13)]),
  bmE ad 1 s, bmE ad 2 s,
  .inr (10, [.ref (ad 26), .int (s.1 1), .int (s.1 2)]),
  .inr (7, [.ref (ad 1), .ref (ad 27), .ref (ad 28), .ref (ad 29), .ref (ad 30), .ref (ad 31), .ref (ad 32), .ref (ad 33), .ref (ad 155), .ref (ad 156), .ref (ad 157), .ref (ad 158), .long (s.2.1 12), .int (s.1 13)]),
  prE ad 5 s, prE ad 6 s,
  .inr (3, [.ref (ad 9), .ref (ad 162), .ref (ad 163), .ref (ad 164), .ref (ad 165), .ref (ad 166), .ref (ad 167), .ref (ad 168), .ref (ad 169), .ref (ad 170)]),
  .inr (9, [.ref (ad 171), .ref (ad 172), .ref (ad 10), .ref (ad 173)]),
  dvE ad 9 s, dvE ad 10 s,
  iaE 8 s, iaE 8 s, iaE 8 s,
  laE 3 s, laE 3 s, zaE 6 s, zaE 4 s, zaE 4 s, laE 4 s,
  laE 3 s, laE 3 s, zaE 6 s, zaE 4 s, zaE 4 s, laE 4 s,
  iaE 50 s, iaE 4 s, iaE 6 s, zaE 10 s, zaE 10 s, zaE 4 s, laE 100 s,
  .inl (.object RX2, 55, .inr (.inr (.inr (.inr (fun j => some (ad (100 + j))))))),
  laE 10 s, laE 10 s, zaE 4 s, laE 10 s, laE 10 s, zaE 4 s]
def cE (ad : Nat → Nat) (σ : cZ) (k : Nat) : Option xE := if k < 40 then (cT ad (σ k))[k]? else if 100 ≤ k ∧ k < 180 then some (bgE (σ k)) else if 200 ≤ k ∧ k < 280 then some (iaE ((σ (k - 100)).2.2 1) (σ k)) else none
def cad (ad : Nat → Nat) (σ : cZ) (k : Nat) : Nat := if k < 200 then ad k else (σ (k - 100)).2.2 0
def cV (k : Nat) : Prop := k < 40 ∨ (100 ≤ k ∧ k < 180) ∨ (200 ≤ k ∧ k < 280)
def isBg (b : Nat) : Prop := 100 ≤ b ∧ b < 180
def lsum (σ : cZ) : Nat := ((List.range 80).map (fun b => (σ (100 + b)).2.2 1)).sum
def cA (G : xG) (ad : Nat → Nat) (F : xM) (R : Nat × Nat) (σ : cZ) (M : xM) (N S : Nat) : Prop :=
  (∀ k e, cE ad σ k = some e → M (cad ad σ k) = some e) ∧
  (∀ j k, cV j → cV k → cad ad σ j = cad ad σ k → j = k) ∧
  (∀ a e, F a = some e → M a = some e ∧ ∀ k, cV k → a ≠ cad ad σ k) ∧
  (∀ b, isBg b → 16 ≤ (σ b).2.2 1 ∧ (σ b).2.2 1 ≤ 2048) ∧
  (N ≤ R.1 + lsum σ ∧ S ≤ R.2 + 2 * lsum σ) ∧ R.1 + 163840 ≤ G.2.2.2.2.1 ∧ R.2 + 327680 ≤ G.2.2.2.2.2
theorem cE_v {ad : Nat → Nat} {σ : cZ} {k : Nat} {e : xE} (h : cE ad σ k = some e) : cV k := by
  unfold cE at h
  unfold cV
  split at h
  · omega
  · split at h
    · omega
    · split at h
      · omega
      · cases h
theorem cE_big {b : Nat} (ad : Nat → Nat) (σ : cZ) (h : isBg b) : cE ad σ b = some (bgE (σ b)) := by
  unfold cE
  obtain ⟨h1, h2⟩ := h
  rw [if_neg (by omega), if_pos ⟨h1, h2⟩]
theorem cE_limb {b : Nat} (ad : Nat → Nat) (σ : cZ) (h : isBg b) : cE ad σ (b + 100) = some (iaE ((σ b).2.2 1) (σ (b + 100))) := by
  unfold cE
  obtain ⟨h1, h2⟩ := h
  rw [if_neg (by omega), if_neg (by omega), if_pos (by omega), Nat.add_sub_cancel]
theorem cad_lo {ad : Nat → Nat} {σ : cZ} {k : Nat} (h : k < 200) : cad ad σ k = ad k := if_pos h
theorem cad_limb {ad : Nat → Nat} {σ : cZ} {b : Nat} (h : isBg b) : cad ad σ (b + 100) = (σ b).2.2 0 := by
  unfold cad
  rw [if_neg (by have := h.1; omega), Nat.add_sub_cancel]
theorem cE_obj {ad : Nat → Nat} {σ : cZ} {k : Nat} {x : Nat × List Value} (h : cE ad σ k = some (.inr x)) : k < 200 := by
  unfold cE at h
  split at h
  · omega
  · split at h
    · omega
    · split at h
      · cases h
      · cases h
theorem cA.obj {G : xG} {ad : Nat → Nat} {F : xM} {R : Nat × Nat} {σ : cZ} {M : xM} {N S : Nat} (h : cA G ad F R σ M N S) {k : Nat} {x : Nat × List Value} (hk : cE ad σ k = some (.inr x)) : M (ad k) = some (.inr x) := by
  have := h.1 k _ hk
  rw [cad_lo (cE_obj hk)] at this
  exact this
theorem cA.arr {G : xG} {ad : Nat → Nat} {F : xM} {R : Nat × Nat} {σ : cZ} {M : xM} {N S : Nat} (h : cA G ad F R σ M N S) {k : Nat} {e : xE} (hk : cE ad σ k = some e) (hlt : k < 200) : M (ad k) = some e := by
  have := h.1 k _ hk
  rw [cad_lo hlt] at this
  exact this
theorem cA.limb {G : xG} {ad : Nat → Nat} {F : xM} {R : Nat × Nat} {σ : cZ} {M : xM} {N S : Nat} (h : cA G ad F R σ M N S) {b : Nat} (hb : isBg b) : M ((σ b).2.2 0) = some (iaE ((σ b).2.2 1) (σ (b + 100))) := by
  have := h.1 _ _ (cE_limb ad σ hb)
  rw [cad_limb hb] at this
  exact this
/-- σ' is σ but for the objects in ks -/
def kp (ks : List Nat) (σ σ' : cZ) : Prop := ∀ j, j ∉ ks → σ' j = σ j
theorem cA.set {G : xG} {ad : Nat → Nat} {F : xM} {R : Nat × Nat} {σ : cZ} {M : xM} {N S : Nat} (h : cA G ad F R σ M N S) {k : Nat} {s : oS} {e : xE} (he : cE ad (mu σ k s) k = some e) (hp : isBg k → s.2.2 0 = (σ k).2.2 0 ∧ s.2.2 1 = (σ k).2.2 1) : cA G ad F R (mu σ k s) (xup M (cad ad σ k) e) N S := by
  have hv := cE_v he
  obtain ⟨h1, h2, h3, h4, h5, h6⟩ := h
  have hP0 : ∀ b, isBg b → (mu σ k s b).2.2 0 = (σ b).2.2 0 ∧ (mu σ k s b).2.2 1 = (σ b).2.2 1 := fun b hb => by
    by_cases e : b = k
    · subst e; rw [mu_s]; exact hp hb
    · rw [mu_n e]; exact ⟨rfl, rfl⟩
  have hc : ∀ j, cV j → cad ad (mu σ k s) j = cad ad σ j := fun j hj => by
    unfold cad
    split
    · rfl
    · rcases hj with hj | hj | hj
      · omega
      · omega
      · exact (hP0 (j - 100) ⟨by omega, by omega⟩).1
  have hE : ∀ j, j ≠ k → cE ad (mu σ k s) j = cE ad σ j := fun j hj => by
    unfold cE
    rw [mu_n hj]
    split
    · rfl
    · split
      · rfl
      · split
        · rename_i hh
          have hq := (hP0 (j - 100) ⟨by omega, by omega⟩).2
          unfold iaE
          rw [hq]
        · rfl
  refine ⟨fun j f hj => ?_, fun i j hi hj => ?_, fun a f hf => ?_, fun b hb => ?_, ?_, h6⟩
  · have hvj := cE_v hj
    rw [hc j hvj]
    by_cases ej : j = k
    · subst ej
      rw [he] at hj
      cases hj
      exact xup_s _ _ _
    · rw [xup_n (fun z => ej (h2 j k hvj hv z))]
      rw [hE j ej] at hj
      exact h1 j f hj
  · rw [hc i hi, hc j hj]
    exact h2 i j hi hj
  · refine ⟨?_, fun j hj => ?_⟩
    · rw [xup_n ((h3 a f hf).2 k hv)]
      exact (h3 a f hf).1
    · rw [hc j hj]
      exact (h3 a f hf).2 j hj
  · rw [(hP0 b hb).2]
    exact h4 b hb
  · have : lsum (mu σ k s) = lsum σ := by
      unfold lsum
      congr 1
      refine List.map_congr_left fun b hb => ?_
      exact (hP0 (100 + b) ⟨by omega, by have := List.mem_range.mp hb; omega⟩).2
    rw [this]
    exact h5
def cC (G : xG) (l : Launch) (ad : Nat → Nat) (F : xM) (R : Nat × Nat) (Y : xY) (d : Nat) (av : List Value) (σ : cZ) (Post : Option Value → cZ → Prop) : Prop :=
  ∀ M N S, cA G ad F R σ M N S → xC G l Y d av M N S (fun r M' N' S' => ∃ σ', cA G ad F R σ' M' N' S' ∧ Post r σ')
def cQ (G : xG) (ad : Nat → Nat) (F : xM) (R : Nat × Nat) (Post : Option Value → cZ → Prop) : xPost := fun r M' N' S' => ∃ σ', cA G ad F R σ' M' N' S' ∧ Post r σ'
section CR
variable {G : xG} {l : Launch} {Y : xY} {d : Nat} {Q : xPost} {pc q : Nat} {ls ls' : List (Nat × Value)} {st : List Value} {M : xM} {N S : Nat} {ad : Nat → Nat} {F : xM} {R : Nat × Nat} {σ : cZ}
theorem cC.of {av : List Value} {Post : Option Value → cZ → Prop} (hpl : plainName Y.1.cls = true) (hlen : (lg_sl av).length ≤ Y.2.2.1) (hls : lv_args 0 av = ls) (h : ∀ M N S, cA G ad F R σ M N S → xX G l Y d (cQ G ad F R Post) 0 ls [] M N S) : cC G l ad F R Y d av σ Post :=
  fun M N S hM => xC.of hpl hlen hls (h M N S hM)
theorem cC.mono {av : List Value} {Post Post' : Option Value → cZ → Prop} (h : cC G l ad F R Y d av σ Post) (hp : ∀ r σ', Post r σ' → Post' r σ') : cC G l ad F R Y d av σ Post' :=
  fun M N S hM => (h M N S hM).mono (fun r M' N' S' z => by obtain ⟨σ', z3, z4⟩ := z; exact ⟨σ', z3, hp r σ' z4⟩)
theorem c_ret {Post : Option Value → cZ → Prop} {r : Option Value} (hM : cA G ad F R σ M N S) (hp : Post r σ) : cQ G ad F R Post r M N S := ⟨σ, hM, hp⟩
theorem c_get {k ci f n index : Nat} {C : String} {T : u_T} {ty : Nat → FieldType} {fs : List Value} {v : Value} (hM : cA G ad F R σ M N S) (hk : cE ad σ k = some (.inr (ci, fs))) (hc : xcl ci C T n ty) (hw : Cond.fieldLink Y.1.cls index (T f).1 (T f).2.1 (T f).2.2.1 ∈ xW) (hf : f < n) (hd : decode Y.2.1 pc = .ok (.getfield index, 3)) (hq : pc + 3 = q) (hv : fs[f]? = some v) (kk : xX G l Y d Q q ls (v :: st) M N S) : xX G l Y d Q pc ls (.ref (ad k) :: st) M N S :=
  x_get hc f hw hf hd hq (hM.obj hk) hv kk
theorem c_getN {k ci f n index : Nat} {C host : String} {T : u_T} {ty : Nat → FieldType} {fs : List Value} {v : Value} (hM : cA G ad F R σ M N S) (hk : cE ad σ k = some (.inr (ci, fs))) (hc : xcl ci C T n ty) (hw : Cond.fieldLinkNest Y.1.cls index (T f).1 (T f).2.1 (T f).2.2.1 host ∈ xN) (hf : f < n) (hd : decode Y.2.1 pc = .ok (.getfield index, 3)) (hq : pc + 3 = q) (hv : fs[f]? = some v) (kk : xX G l Y d Q q ls (v :: st) M N S) : xX G l Y d Q pc ls (.ref (ad k) :: st) M N S :=
  x_getN hc f hw hf hd hq (hM.obj hk) hv kk
theorem cA.seto (hM : cA G ad F R σ M N S) {k : Nat} {s : oS} {ci : Nat} {fs fs' : List Value} (hk : cE ad σ k = some (.inr (ci, fs))) (he : cE ad (mu σ k s) k = some (.inr (ci, fs'))) (hp : isBg k → s.2.2 0 = (σ k).2.2 0 ∧ s.2.2 1 = (σ k).2.2 1) : cA G ad F R (mu σ k s) (xup M (ad k) (.inr (ci, fs'))) N S := by
  have h := hM.set he hp
  rw [cad_lo (cE_obj hk)] at h
  exact h
/-- an int or boolean field -/
theorem c_puti {k ci f n index : Nat} {C : String} {T : u_T} {ty0 : Nat → FieldType} {fs : List Value} {v : Int32} {ty : FieldType} (hM : cA G ad F R σ M N S) (hk : cE ad σ k = some (.inr (ci, fs))) (he : cE ad (mu σ k (mu (σ k).1 f v, (σ k).2)) k = some (.inr (ci, fs.set f (.int v)))) (hc : xcl ci C T n ty0) (hw : Cond.fieldLink Y.1.cls index (T f).1 (T f).2.1 (T f).2.2.1 ∈ xW) (hf : f < n) (hfin : (T f).2.2.2 = false) (hty : parseFieldDescriptor (T f).2.2.1 = some ty) (hl : f < fs.length) (hd : decode Y.2.1 pc = .ok (.putfield index, 3)) (hq : pc + 3 = q) (hn : narrow ty (.int v) = .int v) (hfit : fits ty (.int v) = true) (kk : ∀ (M' : xM) (σ' : cZ), kp [k] σ σ' → (σ' k).1 = mu (σ k).1 f v → (σ' k).2 = (σ k).2 → cA G ad F R σ' M' N S → xX G l Y d Q q ls st M' N S) : xX G l Y d Q pc ls (.int v :: .ref (ad k) :: st) M N S :=
  x_put hc f hw hf hfin hd hq hty hn hfit hl (hM.obj hk) (kk _ (mu σ k (mu (σ k).1 f v, (σ k).2)) (fun j hj => mu_n (by simpa using hj)) (by rw [mu_s]) (by rw [mu_s]) (hM.seto hk he (fun _ => ⟨rfl, rfl⟩)))
theorem c_putiN {k ci f n index : Nat} {C host : String} {T : u_T} {ty0 : Nat → FieldType} {fs : List Value} {v : Int32} {ty : FieldType} (hM : cA G ad F R σ M N S) (hk : cE ad σ k = some (.inr (ci, fs))) (he : cE ad (mu σ k (mu (σ k).1 f v, (σ k).2)) k = some (.inr (ci, fs.set f (.int v)))) (hc : xcl ci C T n ty0) (hw : Cond.fieldLinkNest Y.1.cls index (T f).1 (T f).2.1 (T f).2.2.1 host ∈ xN) (hf : f < n) (hfin : (T f).2.2.2 = false) (hty : parseFieldDescriptor (T f).2.2.1 = some ty) (hl : f < fs.length) (hd : decode Y.2.1 pc = .ok (.putfield index, 3)) (hq : pc + 3 = q) (hn : narrow ty (.int v) = .int v) (hfit : fits ty (.int v) = true) (kk : ∀ (M' : xM) (σ' : cZ), kp [k] σ σ' → (σ' k).1 = mu (σ k).1 f v → (σ' k).2 = (σ k).2 → cA G ad F R σ' M' N S → xX G l Y d Q q ls st M' N S) : xX G l Y d Q pc ls (.int v :: .ref (ad k) :: st) M N S :=
  x_putN hc f hw hf hfin hd hq hty hn hfit hl (hM.obj hk) (kk _ (mu σ k (mu (σ k).1 f v, (σ k).2)) (fun j hj => mu_n (by simpa using hj)) (by rw [mu_s]) (by rw [mu_s]) (hM.seto hk he (fun _ => ⟨rfl, rfl⟩)))
theorem c_putl {k ci f n index : Nat} {C : String} {T : u_T} {ty0 : Nat → FieldType} {fs : List Value} {v : Int64} {ty : FieldType} (hM : cA G ad F R σ M N S) (hk : cE ad σ k = some (.inr (ci, fs))) (he : cE ad (mu σ k ((σ k).1, mu (σ k).2.1 f v, (σ k).2.2)) k = some (.inr (ci, fs.set f (.long v)))) (hc : xcl ci C T n ty0) (hw : Cond.fieldLink Y.1.cls index (T f).1 (T f).2.1 (T f).2.2.1 ∈ xW) (hf : f < n) (hfin : (T f).2.2.2 = false) (hty : parseFieldDescriptor (T f).2.2.1 = some ty) (hl : f < fs.length) (hd : decode Y.2.1 pc = .ok (.putfield index, 3)) (hq : pc + 3 = q) (hn : narrow ty (.long v) = .long v) (hfit : fits ty (.long v) = true) (kk : ∀ (M' : xM) (σ' : cZ), kp [k] σ σ' → (σ' k).2.1 = mu (σ k).2.1 f v → (σ' k).1 = (σ k).1 ∧ (σ' k).2.2 = (σ k).2.2 → cA G ad F R σ' M' N S → xX G l Y d Q q ls st M' N S) : xX G l Y d Q pc ls (.long v :: .ref (ad k) :: st) M N S :=
  x_put hc f hw hf hfin hd hq hty hn hfit hl (hM.obj hk) (kk _ (mu σ k ((σ k).1, mu (σ k).2.1 f v, (σ k).2.2)) (fun j hj => mu_n (by simpa using hj)) (by rw [mu_s]) (by rw [mu_s]; exact ⟨rfl, rfl⟩) (hM.seto hk he (fun _ => ⟨rfl, rfl⟩)))
/-- a field that holds another whole number -/
theorem c_putp {k ci f n index w : Nat} {C : String} {T : u_T} {ty0 : Nat → FieldType} {fs : List Value} {ty : FieldType} (hM : cA G ad F R σ M N S) (hk : cE ad σ k = some (.inr (ci, fs))) (he : cE ad (mu σ k ((σ k).1, (σ k).2.1, mu (σ k).2.2 f w)) k = some (.inr (ci, fs.set f (.ref (ad w))))) (hnb : ¬ isBg k) (hc : xcl ci C T n ty0) (hw : Cond.fieldLink Y.1.cls index (T f).1 (T f).2.1 (T f).2.2.1 ∈ xW) (hf : f < n) (hfin : (T f).2.2.2 = false) (hty : parseFieldDescriptor (T f).2.2.1 = some ty) (hl : f < fs.length) (hd : decode Y.2.1 pc = .ok (.putfield index, 3)) (hq : pc + 3 = q) (hn : narrow ty (.ref (ad w)) = .ref (ad w)) (hfit : fits ty (.ref (ad w)) = true) (kk : ∀ (M' : xM) (σ' : cZ), kp [k] σ σ' → (σ' k).2.2 = mu (σ k).2.2 f w → (σ' k).1 = (σ k).1 ∧ (σ' k).2.1 = (σ k).2.1 → cA G ad F R σ' M' N S → xX G l Y d Q q ls st M' N S) : xX G l Y d Q pc ls (.ref (ad w) :: .ref (ad k) :: st) M N S :=
  x_put hc f hw hf hfin hd hq hty hn hfit hl (hM.obj hk) (kk _ (mu σ k ((σ k).1, (σ k).2.1, mu (σ k).2.2 f w)) (fun j hj => mu_n (by simpa using hj)) (by rw [mu_s]) (by rw [mu_s]; exact ⟨rfl, rfl⟩) (hM.seto hk he (fun h => absurd h hnb)))
/-! elements of the fixed arrays -/
theorem c_iald {k n j : Nat} (hM : cA G ad F R σ M N S) (hk : cE ad σ k = some (iaE n (σ k))) (hlt : k < 200) (hn : n < 2 ^ 31) (hd : decode Y.2.1 pc = .ok (.iaload, 1)) (hq : pc + 1 = q) (hj : j < n) (kk : xX G l Y d Q q ls (.int ((σ k).1 j) :: st) M N S) : xX G l Y d Q pc ls (.int (nI j) :: .ref (ad k) :: st) M N S := by
  refine x_iald hd hq (hM.arr hk hlt) (vp_in_nI hj hn) ?_
  rw [nI_clamp (by omega)]
  exact kk
theorem c_zald {k n j : Nat} (hM : cA G ad F R σ M N S) (hk : cE ad σ k = some (zaE n (σ k))) (hlt : k < 200) (hn : n < 2 ^ 31) (hd : decode Y.2.1 pc = .ok (.baload, 1)) (hq : pc + 1 = q) (hj : j < n) (kk : xX G l Y d Q q ls (.int ((σ k).1 j) :: st) M N S) : xX G l Y d Q pc ls (.int (nI j) :: .ref (ad k) :: st) M N S := by
  refine x_zald hd hq (hM.arr hk hlt) (vp_in_nI hj hn) ?_
  rw [nI_clamp (by omega)]
  exact kk
theorem c_lald {k n j : Nat} (hM : cA G ad F R σ M N S) (hk : cE ad σ k = some (laE n (σ k))) (hlt : k < 200) (hn : n < 2 ^ 31) (hd : decode Y.2.1 pc = .ok (.laload, 1)) (hq : pc + 1 = q) (hj : j < n) (kk : xX G l Y d Q q ls (.long ((σ k).2.1 j) :: st) M N S) : xX G l Y d Q pc ls (.int (nI j) :: .ref (ad k) :: st) M N S := by
  refine x_lald hd hq (hM.arr hk hlt) (vp_in_nI hj hn) ?_
  rw [nI_clamp (by omega)]
  exact kk
theorem c_aald {j : Nat} (hM : cA G ad F R σ M N S) (hd : decode Y.2.1 pc = .ok (.aaload, 1)) (hq : pc + 1 = q) (hj : j < 55) (kk : xX G l Y d Q q ls (.ref (ad (100 + j)) :: st) M N S) : xX G l Y d Q pc ls (.int (nI j) :: .ref (ad 33) :: st) M N S := by
  refine x_aald (b := ad (100 + j)) hd hq (hM.arr (k := 33) rfl (by decide)) (vp_in_nI hj (by decide)) ?_ kk
  rw [nI_clamp (by omega)]
theorem c_limb {b j : Nat} (hM : cA G ad F R σ M N S) (hb : isBg b) (hd : decode Y.2.1 pc = .ok (.iaload, 1)) (hq : pc + 1 = q) (hj : j < (σ b).2.2 1) (kk : xX G l Y d Q q ls (.int ((σ (b + 100)).1 j) :: st) M N S) : xX G l Y d Q pc ls (.int (nI j) :: .ref ((σ b).2.2 0) :: st) M N S := by
  have h2 := (hM.2.2.2.1 b hb).2
  refine x_iald hd hq (hM.limb hb) (vp_in_nI hj (by omega)) ?_
  rw [nI_clamp (by omega)]
  exact kk
theorem cA.seta (hM : cA G ad F R σ M N S) {k : Nat} {s : oS} {e : xE} (hlt : k < 40) (he : cE ad (mu σ k s) k = some e) : cA G ad F R (mu σ k s) (xup M (ad k) e) N S := by
  have h := hM.set he (fun h => by have := h.1; omega)
  rw [cad_lo (by omega)] at h
  exact h
theorem c_iast {k n j : Nat} {x : Int32} (hM : cA G ad F R σ M N S) (hlt : k < 40) (hk : ∀ τ, cE ad τ k = some (iaE n (τ k))) (hn : n < 2 ^ 31) (hd : decode Y.2.1 pc = .ok (.iastore, 1)) (hq : pc + 1 = q) (hj : j < n) (kk : ∀ (M' : xM) (σ' : cZ), kp [k] σ σ' → (σ' k).1 = upd (σ k).1 j x → (σ' k).2 = (σ k).2 → cA G ad F R σ' M' N S → xX G l Y d Q q ls st M' N S) : xX G l Y d Q pc ls (.int x :: .int (nI j) :: .ref (ad k) :: st) M N S := by
  refine x_iast hd hq (hM.arr (hk σ) (by omega)) (vp_in_nI hj hn) ?_
  rw [nI_clamp (by omega)]
  refine kk _ (mu σ k (upd (σ k).1 j x, (σ k).2)) (fun i hi => mu_n (by simpa using hi)) (by rw [mu_s]) (by rw [mu_s]) (hM.seta hlt ?_)
  rw [hk, mu_s]
theorem c_zast {k n j : Nat} {x : Int32} (hM : cA G ad F R σ M N S) (hlt : k < 40) (hk : ∀ τ, cE ad τ k = some (zaE n (τ k))) (hn : n < 2 ^ 31) (hd : decode Y.2.1 pc = .ok (.bastore, 1)) (hq : pc + 1 = q) (hj : j < n) (hx : vp_nar .boolean x = x) (kk : ∀ (M' : xM) (σ' : cZ), kp [k] σ σ' → (σ' k).1 = upd (σ k).1 j x → (σ' k).2 = (σ k).2 → cA G ad F R σ' M' N S → xX G l Y d Q q ls st M' N S) : xX G l Y d Q pc ls (.int x :: .int (nI j) :: .ref (ad k) :: st) M N S := by
  refine x_zast hd hq (hM.arr (hk σ) (by omega)) (vp_in_nI hj hn) ?_
  rw [nI_clamp (by omega), hx]
  refine kk _ (mu σ k (upd (σ k).1 j x, (σ k).2)) (fun i hi => mu_n (by simpa using hi)) (by rw [mu_s]) (by rw [mu_s]) (hM.seta hlt ?_)
  rw [hk, mu_s]
theorem c_last {k n j : Nat} {x : Int64} (hM : cA G ad F R σ M N S) (hlt : k < 40) (hk : ∀ τ, cE ad τ k = some (laE n (τ k))) (hn : n < 2 ^ 31) (hd : decode Y.2.1 pc = .ok (.lastore, 1)) (hq : pc + 1 = q) (hj : j < n) (kk : ∀ (M' : xM) (σ' : cZ), kp [k] σ σ' → (σ' k).2.1 = vp_updL (σ k).2.1 j x → (σ' k).1 = (σ k).1 ∧ (σ' k).2.2 = (σ k).2.2 → cA G ad F R σ' M' N S → xX G l Y d Q q ls st M' N S) : xX G l Y d Q pc ls (.long x :: .int (nI j) :: .ref (ad k) :: st) M N S := by
  refine x_last hd hq (hM.arr (hk σ) (by omega)) (vp_in_nI hj hn) ?_
  rw [nI_clamp (by omega)]
  refine kk _ (mu σ k ((σ k).1, vp_updL (σ k).2.1 j x, (σ k).2.2)) (fun i hi => mu_n (by simpa using hi)) (by rw [mu_s]) (by rw [mu_s]; exact ⟨rfl, rfl⟩) (hM.seta hlt ?_)
  rw [hk, mu_s]
theorem cA.setl (hM : cA G ad F R σ M N S) {b : Nat} (hb : isBg b) (f : Nat → Int32) : cA G ad F R (mu σ (b + 100) (f, (σ (b + 100)).2)) (xup M ((σ b).2.2 0) (.inl (.int, (σ b).2.2 1, .inl f))) N S := by
  have h := hM.set (k := b + 100) (s := (f, (σ (b + 100)).2)) (e := iaE ((σ b).2.2 1) (f, (σ (b + 100)).2)) (by rw [cE_limb ad _ hb, mu_n (by omega : b ≠ b + 100), mu_s]) (fun _ => ⟨rfl, rfl⟩)
  rw [cad_limb hb] at h
  exact h
theorem c_limbst {b j : Nat} {x : Int32} (hM : cA G ad F R σ M N S) (hb : isBg b) (hd : decode Y.2.1 pc = .ok (.iastore, 1)) (hq : pc + 1 = q) (hj : j < (σ b).2.2 1) (kk : ∀ (M' : xM) (σ' : cZ), kp [b + 100] σ σ' → (σ' (b + 100)).1 = upd (σ (b + 100)).1 j x → cA G ad F R σ' M' N S → xX G l Y d Q q ls st M' N S) : xX G l Y d Q pc ls (.int x :: .int (nI j) :: .ref ((σ b).2.2 0) :: st) M N S := by
  have h2 := (hM.2.2.2.1 b hb).2
  refine x_iast hd hq (hM.limb hb) (vp_in_nI hj (by omega)) ?_
  rw [nI_clamp (by omega)]
  exact kk _ (mu σ (b + 100) (upd (σ (b + 100)).1 j x, (σ (b + 100)).2)) (fun i hi => mu_n (by simpa using hi)) (by rw [mu_s]) (hM.setl hb _)
theorem c_call {Y' : xY} {n index k ci : Nat} {fs : List Value} {As rest : List Value} (hM : cA G ad F R σ M N S) (hk : cE ad σ k = some (.inr (ci, fs))) (hm : xm Y' n) (hw1 : Cond.instanceMethod Y'.1 ∈ xW) (hw2 : Cond.selects Y'.1.cls Y'.1 Y'.1 ∈ xW) (hw : Cond.methodLink Y.1.cls index Y'.1 ∈ xW) (hci : ∃ T n, vwCl[ci]? = some (Y'.1.cls, T, n)) (hd : decode Y.2.1 pc = .ok (.invokevirtual index, 3)) (hq : pc + 3 = q) (hst : st = As.reverse ++ .ref (ad k) :: rest) (hn : As.length = n) (hr : (rest.map fun v => v.category).sum ≤ 8) (hC : cC G l ad F R Y' d (.ref (ad k) :: As) σ (fun r σ' => ∀ M' N' S', cA G ad F R σ' M' N' S' → xX G l Y (d + 1) Q q ls (r.toList ++ rest) M' N' S')) : xX G l Y (d + 1) Q pc ls st M N S :=
  x_callV hm hw1 hw2 hw hci (hM.obj hk) hd hq hst hn hr ((hC M N S hM).mono (fun r M' N' S' h => by
    obtain ⟨σ', h1, h2⟩ := h
    exact h2 M' N' S' h1))
theorem c_callN {Y' : xY} {n index k ci : Nat} {fs : List Value} {host : String} {As rest : List Value} (hM : cA G ad F R σ M N S) (hk : cE ad σ k = some (.inr (ci, fs))) (hm : xm Y' n) (hw1 : Cond.instanceMethod Y'.1 ∈ xW) (hw2 : Cond.selects Y'.1.cls Y'.1 Y'.1 ∈ xW) (hw : Cond.methodLinkNest Y.1.cls index Y'.1 host ∈ xN) (hci : ∃ T n, vwCl[ci]? = some (Y'.1.cls, T, n)) (hd : decode Y.2.1 pc = .ok (.invokevirtual index, 3)) (hq : pc + 3 = q) (hst : st = As.reverse ++ .ref (ad k) :: rest) (hn : As.length = n) (hr : (rest.map fun v => v.category).sum ≤ 8) (hC : cC G l ad F R Y' d (.ref (ad k) :: As) σ (fun r σ' => ∀ M' N' S', cA G ad F R σ' M' N' S' → xX G l Y (d + 1) Q q ls (r.toList ++ rest) M' N' S')) : xX G l Y (d + 1) Q pc ls st M N S :=
  x_callVN hm hw1 hw2 hw hci (hM.obj hk) hd hq hst hn hr ((hC M N S hM).mono (fun r M' N' S' h => by
    obtain ⟨σ', h1, h2⟩ := h
    exact h2 M' N' S' h1))
theorem c_callS {Y' : xY} {n index : Nat} {As rest : List Value} (hM : cA G ad F R σ M N S) (hm : xm Y' n) (hw1 : Cond.static Y'.1 ∈ xW) (hw : Cond.methodLink Y.1.cls index Y'.1 ∈ xW) (hd : decode Y.2.1 pc = .ok (.invokestatic index, 3)) (hq : pc + 3 = q) (hst : st = As.reverse ++ rest) (hn : As.length = n) (hr : (rest.map fun v => v.category).sum ≤ 8) (hC : cC G l ad F R Y' d As σ (fun r σ' => ∀ M' N' S', cA G ad F R σ' M' N' S' → xX G l Y (d + 1) Q q ls (r.toList ++ rest) M' N' S')) : xX G l Y (d + 1) Q pc ls st M N S :=
  x_callS hm hw1 hw hd hq hst hn hr ((hC M N S hM).mono (fun r M' N' S' h => by
    obtain ⟨σ', h1, h2⟩ := h
    exact h2 M' N' S' h1))
end CR
end XV
