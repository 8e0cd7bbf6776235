section XB
/-! The reference's object: its fields and arrays as functions; rules that keep them. -/
abbrev mS : Type := (Nat → Int32) × (Nat → Nat → Int32) × (Nat → Nat → Int64)
def mu {α : Type} (f : Nat → α) (k : Nat) (v : α) : Nat → α := fun j => if j = k then v else f j
theorem mu_s {α : Type} (f : Nat → α) (k : Nat) (v : α) : mu f k v k = v := if_pos rfl
theorem mu_n {α : Type} {f : Nat → α} {k j : Nat} {v : α} (h : j ≠ k) : mu f k v j = f j := if_neg h
def mF (as : Nat → Nat) (I : Nat → Int32) : List Value := [.int (I 0), .ref (as 1), .int (I 2), .int (I 3), .ref (as 4), .ref (as 5), .ref (as 6), .ref (as 7), .ref (as 8), .ref (as 9), .int (I 10), .ref (as 11), .ref (as 12), .ref (as 13), .ref (as 14), .ref (as 15), .ref (as 16), .ref (as 17), .ref (as 18), .ref (as 19), .ref (as 20), .int (I 21), .int (I 22), .int (I 23), .ref (as 24), .int (I 25), .ref (as 26), .int (I 27), .ref (as 28), .int (I 29), .int (I 30), .ref (as 31), .ref (as 32), .ref (as 33), .ref (as 34), .ref (as 35), .ref (as 36), .ref (as 37)]
def mInts : List (Nat × Nat) := [(1, 50), (4, 3), (5, 3), (9, 4), (11, 8), (12, 8), (13, 8), (14, 6400), (15, 16), (16, 16), (17, 8064), (18, 336), (19, 336), (28, 4), (31, 4), (32, 3), (33, 3), (35, 360), (36, 15), (37, 15)]
def mBools : List (Nat × Nat) := [(6, 6), (7, 4), (8, 4), (34, 6)]
def mLongs : List (Nat × Nat) := [(20, 336), (24, 120), (26, 126)]
def mArr : List Nat := [1, 4, 5, 6, 7, 8, 9, 11, 12, 13, 14, 15, 16, 17, 18, 19, 20, 24, 26, 28, 31, 32, 33, 34, 35, 36, 37]
def mOk (o : Nat) (as : Nat → Nat) : Prop := (∀ j k, j ∈ mArr → k ∈ mArr → as j = as k → j = k) ∧ ∀ k, k ∈ mArr → as k ≠ o
def mAt (o : Nat) (as : Nat → Nat) (σ : mS) (M0 M : xM) : Prop :=
  mOk o as ∧ M o = some (.inr (12, mF as σ.1)) ∧ (∀ k n, (k, n) ∈ mInts → M (as k) = some (.inl (.int, n, .inl (σ.2.1 k)))) ∧ (∀ k n, (k, n) ∈ mBools → M (as k) = some (.inl (.boolean, n, .inl (σ.2.1 k)))) ∧ (∀ k n, (k, n) ∈ mLongs → M (as k) = some (.inl (.long, n, .inr (.inl (σ.2.2 k))))) ∧
  ∀ b, b ≠ o → (∀ k, k ∈ mArr → b ≠ as k) → M b = M0 b
theorem mInts_arr : ∀ q ∈ mInts, q.1 ∈ mArr := by decide
theorem mBools_arr : ∀ q ∈ mBools, q.1 ∈ mArr := by decide
theorem mLongs_arr : ∀ q ∈ mLongs, q.1 ∈ mArr := by decide
theorem mInts_lt : ∀ q ∈ mInts, q.2 < 2 ^ 31 := by decide
theorem mBools_lt : ∀ q ∈ mBools, q.2 < 2 ^ 31 := by decide
theorem mLongs_lt : ∀ q ∈ mLongs, q.2 < 2 ^ 31 := by decide
theorem mIB : ∀ q ∈ mInts, ∀ r ∈ mBools, q.1 ≠ r.1 := by decide
theorem mIn : ∀ q ∈ mInts, ∀ r ∈ mInts, q.1 = r.1 → q.2 = r.2 := by decide
theorem mBn : ∀ q ∈ mBools, ∀ r ∈ mBools, q.1 = r.1 → q.2 = r.2 := by decide
theorem mLn : ∀ q ∈ mLongs, ∀ r ∈ mLongs, q.1 = r.1 → q.2 = r.2 := by decide
theorem mIL : ∀ q ∈ mInts, ∀ r ∈ mLongs, q.1 ≠ r.1 := by decide
theorem mBL : ∀ q ∈ mBools, ∀ r ∈ mLongs, q.1 ≠ r.1 := by decide
theorem mAt.seti {o : Nat} {as : Nat → Nat} {σ : mS} {M0 M : xM} (h : mAt o as σ M0 M) {k n : Nat} (hk : (k, n) ∈ mInts) (f : Nat → Int32) : mAt o as (σ.1, mu σ.2.1 k f, σ.2.2) M0 (xup M (as k) (.inl (.int, n, .inl f))) := by
  obtain ⟨ok, h1, h2, h3, h4, h5⟩ := h
  have hka := mInts_arr _ hk
  refine ⟨ok, ?_, fun j m hj => ?_, fun j m hj => ?_, fun j m hj => ?_, fun b hb hb2 => ?_⟩
  · rw [xup_n (fun e => ok.2 k hka e.symm)]; exact h1
  · by_cases e : j = k
    · subst e
      rw [xup_s]
      have hm := mIn _ hk _ hj rfl
      dsimp only at hm
      subst hm
      show _ = some (Sum.inl (_, _, Sum.inl (mu σ.2.1 j f j)))
      rw [mu_s]
    · rw [xup_n (fun z => e (ok.1 j k (mInts_arr _ hj) hka z)), h2 j m hj]
      show _ = some (Sum.inl (_, _, Sum.inl (mu σ.2.1 k f j)))
      rw [mu_n e]
  · have e : j ≠ k := fun z => mIB _ hk _ hj z.symm
    rw [xup_n (fun z => e (ok.1 j k (mBools_arr _ hj) hka z)), h3 j m hj]
    show _ = some (Sum.inl (_, _, Sum.inl (mu σ.2.1 k f j)))
    rw [mu_n e]
  · have e : j ≠ k := fun z => mIL _ hk _ hj z.symm
    rw [xup_n (fun z => e (ok.1 j k (mLongs_arr _ hj) hka z))]
    exact h4 j m hj
  · rw [xup_n (hb2 k hka)]; exact h5 b hb hb2
theorem mAt.setz {o : Nat} {as : Nat → Nat} {σ : mS} {M0 M : xM} (h : mAt o as σ M0 M) {k n : Nat} (hk : (k, n) ∈ mBools) (f : Nat → Int32) : mAt o as (σ.1, mu σ.2.1 k f, σ.2.2) M0 (xup M (as k) (.inl (.boolean, n, .inl f))) := by
  obtain ⟨ok, h1, h2, h3, h4, h5⟩ := h
  have hka := mBools_arr _ hk
  refine ⟨ok, ?_, fun j m hj => ?_, fun j m hj => ?_, fun j m hj => ?_, fun b hb hb2 => ?_⟩
  · rw [xup_n (fun e => ok.2 k hka e.symm)]; exact h1
  · have e : j ≠ k := fun z => mIB _ hj _ hk z
    rw [xup_n (fun z => e (ok.1 j k (mInts_arr _ hj) hka z)), h2 j m hj]
    show _ = some (Sum.inl (_, _, Sum.inl (mu σ.2.1 k f j)))
    rw [mu_n e]
  · by_cases e : j = k
    · subst e
      rw [xup_s]
      have hm := mBn _ hk _ hj rfl
      dsimp only at hm
      subst hm
      show _ = some (Sum.inl (_, _, Sum.inl (mu σ.2.1 j f j)))
      rw [mu_s]
    · rw [xup_n (fun z => e (ok.1 j k (mBools_arr _ hj) hka z)), h3 j m hj]
      show _ = some (Sum.inl (_, _, Sum.inl (mu σ.2.1 k f j)))
      rw [mu_n e]
  · have e : j ≠ k := fun z => mBL _ hk _ hj z.symm
    rw [xup_n (fun z => e (ok.1 j k (mLongs_arr _ hj) hka z))]
    exact h4 j m hj
  · rw [xup_n (hb2 k hka)]; exact h5 b hb hb2
theorem mAt.setl {o : Nat} {as : Nat → Nat} {σ : mS} {M0 M : xM} (h : mAt o as σ M0 M) {k n : Nat} (hk : (k, n) ∈ mLongs) (f : Nat → Int64) : mAt o as (σ.1, σ.2.1, mu σ.2.2 k f) M0 (xup M (as k) (.inl (.long, n, .inr (.inl f)))) := by
  obtain ⟨ok, h1, h2, h3, h4, h5⟩ := h
  have hka := mLongs_arr _ hk
  refine ⟨ok, ?_, fun j m hj => ?_, fun j m hj => ?_, fun j m hj => ?_, fun b hb hb2 => ?_⟩
  · rw [xup_n (fun e => ok.2 k hka e.symm)]; exact h1
  · have e : j ≠ k := fun z => mIL _ hj _ hk z
    rw [xup_n (fun z => e (ok.1 j k (mInts_arr _ hj) hka z))]
    exact h2 j m hj
  · have e : j ≠ k := fun z => mBL _ hj _ hk z
    rw [xup_n (fun z => e (ok.1 j k (mBools_arr _ hj) hka z))]
    exact h3 j m hj
  · by_cases e : j = k
    · subst e
      rw [xup_s]
      have hm := mLn _ hk _ hj rfl
      dsimp only at hm
      subst hm
      show _ = some (Sum.inl (_, _, Sum.inr (Sum.inl (mu σ.2.2 j f j))))
      rw [mu_s]
    · rw [xup_n (fun z => e (ok.1 j k (mLongs_arr _ hj) hka z)), h4 j m hj]
      show _ = some (Sum.inl (_, _, Sum.inr (Sum.inl (mu σ.2.2 k f j))))
      rw [mu_n e]
  · rw [xup_n (hb2 k hka)]; exact h5 b hb hb2
theorem mAt.setf {o : Nat} {as : Nat → Nat} {σ : mS} {M0 M : xM} (h : mAt o as σ M0 M) {k : Nat} {v : Int32} (hs : (mF as σ.1).set k (.int v) = mF as (mu σ.1 k v)) : mAt o as (mu σ.1 k v, σ.2) M0 (xup M o (.inr (12, (mF as σ.1).set k (.int v)))) := by
  obtain ⟨ok, h1, h2, h3, h4, h5⟩ := h
  refine ⟨ok, by rw [xup_s, hs], fun j m hj => ?_, fun j m hj => ?_, fun j m hj => ?_, fun b hb hb2 => ?_⟩
  · rw [xup_n (ok.2 j (mInts_arr _ hj))]; exact h2 j m hj
  · rw [xup_n (ok.2 j (mBools_arr _ hj))]; exact h3 j m hj
  · rw [xup_n (ok.2 j (mLongs_arr _ hj))]; exact h4 j m hj
  · rw [xup_n hb]; exact h5 b hb hb2
def mQ (o : Nat) (as : Nat → Nat) (M0 : xM) (N S : Nat) (Post : Option Value → mS → Prop) : xPost := fun r M' N' S' => N' = N ∧ S' = S ∧ ∃ σ', mAt o as σ' M0 M' ∧ Post r σ'
def mC (G : xG) (l : Launch) (o : Nat) (as : Nat → Nat) (M0 : xM) (N S : Nat) (Y : xY) (d : Nat) (av : List Value) (σ : mS) (Post : Option Value → mS → Prop) : Prop := ∀ M, mAt o as σ M0 M → xC G l Y d (.ref o :: av) M N S (mQ o as M0 N S Post)
section MR
variable {G : xG} {l : Launch} {Y : xY} {d : Nat} {Q : xPost} {pc q : Nat} {ls ls' : List (Nat × Value)} {st : List Value} {M M0 : xM} {N S : Nat} {o : Nat} {as : Nat → Nat} {σ : mS}
theorem mC.of {av : List Value} {Post : Option Value → mS → Prop} (hpl : plainName Y.1.cls = true) (hlen : (lg_sl (.ref o :: av)).length ≤ Y.2.2.1) (hls : lv_args 0 (.ref o :: av) = ls) (h : ∀ M, mAt o as σ M0 M → xX G l Y d (mQ o as M0 N S Post) 0 ls [] M N S) : mC G l o as M0 N S Y d av σ Post :=
  fun M hM => xC.of hpl hlen hls (h M hM)
theorem mC.mono {av : List Value} {Post Post' : Option Value → mS → Prop} (h : mC G l o as M0 N S Y d av σ Post) (hp : ∀ r σ', Post r σ' → Post' r σ') : mC G l o as M0 N S Y d av σ Post' :=
  fun M hM => (h M hM).mono (fun r M' N' S' z => by obtain ⟨z1, z2, σ', z3, z4⟩ := z; exact ⟨z1, z2, σ', z3, hp r σ' z4⟩)
theorem m_get {index : Nat} {v : Value} (hM : mAt o as σ M0 M) (k : Nat) (hw : Cond.fieldLink Y.1.cls index (TX9 k).1 (TX9 k).2.1 (TX9 k).2.2.1 ∈ xW) (hk : k < 38) (hd : decode Y.2.1 pc = .ok (.getfield index, 3)) (hq : pc + 3 = q) (hv : (mF as σ.1)[k]? = some v) (kk : xX G l Y d Q q ls (v :: st) M N S) : xX G l Y d Q pc ls (.ref o :: st) M N S :=
  x_get xclX9 k hw hk hd hq hM.2.1 hv kk
theorem m_put {index : Nat} {v : Int32} {ty : FieldType} (hM : mAt o as σ M0 M) (k : Nat) (hw : Cond.fieldLink Y.1.cls index (TX9 k).1 (TX9 k).2.1 (TX9 k).2.2.1 ∈ xW) (hk : k < 38) (hfin : (TX9 k).2.2.2 = false) (hty : parseFieldDescriptor (TX9 k).2.2.1 = some ty) (hs : (mF as σ.1).set k (.int v) = mF as (mu σ.1 k v)) (hd : decode Y.2.1 pc = .ok (.putfield index, 3)) (hq : pc + 3 = q) (hn : narrow ty (.int v) = .int v) (hfit : fits ty (.int v) = true) (kk : ∀ M', mAt o as (mu σ.1 k v, σ.2) M0 M' → xX G l Y d Q q ls st M' N S) : xX G l Y d Q pc ls (.int v :: .ref o :: st) M N S :=
  x_put xclX9 k hw hk hfin hd hq hty hn hfit (show k < (mF as σ.1).length from hk) hM.2.1 (kk _ (hM.setf hs))
theorem m_iald (hM : mAt o as σ M0 M) {k n j : Nat} (hk : (k, n) ∈ mInts) (hd : decode Y.2.1 pc = .ok (.iaload, 1)) (hq : pc + 1 = q) (hj : j < n) (kk : xX G l Y d Q q ls (.int (σ.2.1 k j) :: st) M N S) : xX G l Y d Q pc ls (.int (nI j) :: .ref (as k) :: st) M N S := by
  have hn := mInts_lt _ hk
  dsimp only at hn
  refine x_iald hd hq (hM.2.2.1 k n hk) (vp_in_nI hj hn) ?_
  rw [nI_clamp (by omega)]
  exact kk
theorem m_zald (hM : mAt o as σ M0 M) {k n j : Nat} (hk : (k, n) ∈ mBools) (hd : decode Y.2.1 pc = .ok (.baload, 1)) (hq : pc + 1 = q) (hj : j < n) (kk : xX G l Y d Q q ls (.int (σ.2.1 k j) :: st) M N S) : xX G l Y d Q pc ls (.int (nI j) :: .ref (as k) :: st) M N S := by
  have hn := mBools_lt _ hk
  dsimp only at hn
  refine x_zald hd hq (hM.2.2.2.1 k n hk) (vp_in_nI hj hn) ?_
  rw [nI_clamp (by omega)]
  exact kk
theorem m_lald (hM : mAt o as σ M0 M) {k n j : Nat} (hk : (k, n) ∈ mLongs) (hd : decode Y.2.1 pc = .ok (.laload, 1)) (hq : pc + 1 = q) (hj : j < n) (kk : xX G l Y d Q q ls (.long (σ.2.2 k j) :: st) M N S) : xX G l Y d Q pc ls (.int (nI j) :: .ref (as k) :: st) M N S := by
  have hn := mLongs_lt _ hk
  dsimp only at hn
  refine x_lald hd hq (hM.2.2.2.2.1 k n hk) (vp_in_nI hj hn) ?_
  rw [nI_clamp (by omega)]
  exact kk
theorem m_iast (hM : mAt o as σ M0 M) {k n j : Nat} {x : Int32} (hk : (k, n) ∈ mInts) (hd : decode Y.2.1 pc = .ok (.iastore, 1)) (hq : pc + 1 = q) (hj : j < n) (kk : ∀ M', mAt o as (σ.1, mu σ.2.1 k (upd (σ.2.1 k) j x), σ.2.2) M0 M' → xX G l Y d Q q ls st M' N S) : xX G l Y d Q pc ls (.int x :: .int (nI j) :: .ref (as k) :: st) M N S := by
  have hn := mInts_lt _ hk
  dsimp only at hn
  refine x_iast hd hq (hM.2.2.1 k n hk) (vp_in_nI hj hn) ?_
  rw [nI_clamp (by omega)]
  exact kk _ (hM.seti hk _)
theorem m_zast (hM : mAt o as σ M0 M) {k n j : Nat} {x : Int32} (hk : (k, n) ∈ mBools) (hd : decode Y.2.1 pc = .ok (.bastore, 1)) (hq : pc + 1 = q) (hj : j < n) (hx : vp_nar .boolean x = x) (kk : ∀ M', mAt o as (σ.1, mu σ.2.1 k (upd (σ.2.1 k) j x), σ.2.2) M0 M' → xX G l Y d Q q ls st M' N S) : xX G l Y d Q pc ls (.int x :: .int (nI j) :: .ref (as k) :: st) M N S := by
  have hn := mBools_lt _ hk
  dsimp only at hn
  refine x_zast hd hq (hM.2.2.2.1 k n hk) (vp_in_nI hj hn) ?_
  rw [nI_clamp (by omega), hx]
  exact kk _ (hM.setz hk _)
theorem m_last (hM : mAt o as σ M0 M) {k n j : Nat} {x : Int64} (hk : (k, n) ∈ mLongs) (hd : decode Y.2.1 pc = .ok (.lastore, 1)) (hq : pc + 1 = q) (hj : j < n) (kk : ∀ M', mAt o as (σ.1, σ.2.1, mu σ.2.2 k (vp_updL (σ.2.2 k) j x)) M0 M' → xX G l Y d Q q ls st M' N S) : xX G l Y d Q pc ls (.long x :: .int (nI j) :: .ref (as k) :: st) M N S := by
  have hn := mLongs_lt _ hk
  dsimp only at hn
  refine x_last hd hq (hM.2.2.2.2.1 k n hk) (vp_in_nI hj hn) ?_
  rw [nI_clamp (by omega)]
  exact kk _ (hM.setl hk _)
theorem m_call {Y' : xY} {n index : Nat} {As rest : List Value} (hM : mAt o as σ M0 M) (hm : xm Y' n) (hw1 : Cond.instanceMethod Y'.1 ∈ xW) (hw2 : Cond.selects Y'.1.cls Y'.1 Y'.1 ∈ xW) (hw : Cond.methodLink Y.1.cls index Y'.1 ∈ xW) (hci : ∃ T n, vwCl[12]? = some (Y'.1.cls, T, n)) (hd : decode Y.2.1 pc = .ok (.invokevirtual index, 3)) (hq : pc + 3 = q) (hst : st = As.reverse ++ .ref o :: rest) (hn : As.length = n) (hr : (rest.map fun v => v.category).sum ≤ 8) (hC : mC G l o as M0 N S Y' d As σ (fun r σ' => ∀ M', mAt o as σ' M0 M' → xX G l Y (d + 1) Q q ls (r.toList ++ rest) M' N S)) : xX G l Y (d + 1) Q pc ls st M N S :=
  x_callV hm hw1 hw2 hw hci hM.2.1 hd hq hst hn hr ((hC M hM).mono (fun r M' N' S' h => by
    obtain ⟨rfl, rfl, σ', h1, h2⟩ := h
    exact h2 M' h1))
theorem m_ret {Post : Option Value → mS → Prop} {r : Option Value} (hM : mAt o as σ M0 M) (hp : Post r σ) : mQ o as M0 N S Post r M N S := ⟨rfl, rfl, σ, hM, hp⟩
/-! numbers not below 0 -/
theorem xn_iconst {n : Int} (v : Nat) (hd : decode Y.2.1 pc = .ok (.iconst n, 1)) (hq : pc + 1 = q) (hv : Int32.ofInt n = nI v) (k : xX G l Y d Q q ls (.int (nI v) :: st) M N S) : xX G l Y d Q pc ls st M N S := x_iconst (nI v) hd hq hv k
theorem xn_bipush {n : Int} (v : Nat) (hd : decode Y.2.1 pc = .ok (.bipush n, 2)) (hq : pc + 2 = q) (hv : (Int8.ofInt n).toInt32 = nI v) (k : xX G l Y d Q q ls (.int (nI v) :: st) M N S) : xX G l Y d Q pc ls st M N S := x_bipush (nI v) hd hq hv k
theorem xn_sipush {n : Int} (v : Nat) (hd : decode Y.2.1 pc = .ok (.sipush n, 3)) (hq : pc + 3 = q) (hv : (Int16.ofInt n).toInt32 = nI v) (k : xX G l Y d Q q ls (.int (nI v) :: st) M N S) : xX G l Y d Q pc ls st M N S := x_sipush (nI v) hd hq hv k
theorem xn_iadd {a b : Nat} (hd : decode Y.2.1 pc = .ok (.iadd, 1)) (hq : pc + 1 = q) (k : xX G l Y d Q q ls (.int (nI (a + b)) :: st) M N S) : xX G l Y d Q pc ls (.int (nI b) :: .int (nI a) :: st) M N S := x_iadd hd hq (by rw [nI_add]; exact k)
theorem xn_imul {a b : Nat} (hd : decode Y.2.1 pc = .ok (.imul, 1)) (hq : pc + 1 = q) (k : xX G l Y d Q q ls (.int (nI (a * b)) :: st) M N S) : xX G l Y d Q pc ls (.int (nI b) :: .int (nI a) :: st) M N S := x_imul hd hq (by rw [pk_mul]; exact k)
theorem xn_isub {a b : Nat} (hd : decode Y.2.1 pc = .ok (.isub, 1)) (hq : pc + 1 = q) (h : b ≤ a) (k : xX G l Y d Q q ls (.int (nI (a - b)) :: st) M N S) : xX G l Y d Q pc ls (.int (nI b) :: .int (nI a) :: st) M N S := x_isub hd hq (by rw [pk_sub h]; exact k)
theorem xn_idiv {a b : Nat} (hd : decode Y.2.1 pc = .ok (.idiv, 1)) (hq : pc + 1 = q) (ha : a < 2 ^ 31) (h0 : 0 < b) (hb : b < 2 ^ 31) (k : xX G l Y d Q q ls (.int (nI (a / b)) :: st) M N S) : xX G l Y d Q pc ls (.int (nI b) :: .int (nI a) :: st) M N S := x_idiv hd hq (nI_ne0 h0 hb) (by rw [pk_div ha h0 hb]; exact k)
theorem xn_irem {a b : Nat} (hd : decode Y.2.1 pc = .ok (.irem, 1)) (hq : pc + 1 = q) (ha : a < 2 ^ 31) (h0 : 0 < b) (hb : b < 2 ^ 31) (k : xX G l Y d Q q ls (.int (nI (a % b)) :: st) M N S) : xX G l Y d Q pc ls (.int (nI b) :: .int (nI a) :: st) M N S := x_irem hd hq (nI_ne0 h0 hb) (by rw [pk_rem ha h0 hb]; exact k)
theorem xn_i2l {a : Nat} (hd : decode Y.2.1 pc = .ok (.i2l, 1)) (hq : pc + 1 = q) (h : a < 2 ^ 31) (k : xX G l Y d Q q ls (.long (lN a) :: st) M N S) : xX G l Y d Q pc ls (.int (nI a) :: st) M N S := x_i2l hd hq (by rw [nI_l h]; exact k)
theorem xn_l2i {a : Nat} (hd : decode Y.2.1 pc = .ok (.l2i, 1)) (hq : pc + 1 = q) (k : xX G l Y d Q q ls (.int (nI a) :: st) M N S) : xX G l Y d Q pc ls (.long (lN a) :: st) M N S := x_l2i hd hq (by rw [lN_i]; exact k)
theorem xn_ladd {a b : Nat} (hd : decode Y.2.1 pc = .ok (.ladd, 1)) (hq : pc + 1 = q) (k : xX G l Y d Q q ls (.long (lN (a + b)) :: st) M N S) : xX G l Y d Q pc ls (.long (lN b) :: .long (lN a) :: st) M N S := x_ladd hd hq (by rw [lN_add]; exact k)
theorem xn_lmul {a b : Nat} (hd : decode Y.2.1 pc = .ok (.lmul, 1)) (hq : pc + 1 = q) (k : xX G l Y d Q q ls (.long (lN (a * b)) :: st) M N S) : xX G l Y d Q pc ls (.long (lN b) :: .long (lN a) :: st) M N S := x_lmul hd hq (by rw [lN_mul]; exact k)
theorem xn_lsub {a b : Nat} (hd : decode Y.2.1 pc = .ok (.lsub, 1)) (hq : pc + 1 = q) (h : b ≤ a) (k : xX G l Y d Q q ls (.long (lN (a - b)) :: st) M N S) : xX G l Y d Q pc ls (.long (lN b) :: .long (lN a) :: st) M N S := x_lsub hd hq (by rw [lN_sub h]; exact k)
theorem lN_ne0 {b : Nat} (h0 : 0 < b) (hb : b < 2 ^ 63) : ¬ lN b = 0 := fun h => by
  have := (pk_lEQ hb (by omega : (0 : Nat) < 2 ^ 63)).mp h
  omega
theorem xn_ldiv {a b : Nat} (hd : decode Y.2.1 pc = .ok (.ldiv, 1)) (hq : pc + 1 = q) (ha : a < 2 ^ 63) (h0 : 0 < b) (hb : b < 2 ^ 63) (k : xX G l Y d Q q ls (.long (lN (a / b)) :: st) M N S) : xX G l Y d Q pc ls (.long (lN b) :: .long (lN a) :: st) M N S := x_ldiv hd hq (lN_ne0 h0 hb) (by rw [pk_lDiv ha h0 hb]; exact k)
theorem xn_lrem {a b : Nat} (hd : decode Y.2.1 pc = .ok (.lrem, 1)) (hq : pc + 1 = q) (ha : a < 2 ^ 63) (h0 : 0 < b) (hb : b < 2 ^ 63) (k : xX G l Y d Q q ls (.long (lN (a % b)) :: st) M N S) : xX G l Y d Q pc ls (.long (lN b) :: .long (lN a) :: st) M N S := x_lrem hd hq (lN_ne0 h0 hb) (by rw [pk_lRem ha h0 hb]; exact k)
theorem xn_lconst {n : Fin 2} (v : Nat) (hd : decode Y.2.1 pc = .ok (.lconst n, 1)) (hq : pc + 1 = q) (hv : Int64.ofNat (n : Nat) = lN v) (k : xX G l Y d Q q ls (.long (lN v) :: st) M N S) : xX G l Y d Q pc ls st M N S := x_lconst (lN v) hd hq hv k
theorem xn_ldc2 {index : Nat} (v : Nat) (hd : decode Y.2.1 pc = .ok (.ldc2_w index, 3)) (hq : pc + 3 = q) (hw : Cond.constantLong Y.1.cls index (lN v) ∈ xW) (k : xX G l Y d Q q ls (.long (lN v) :: st) M N S) : xX G l Y d Q pc ls st M N S := x_ldc2 (lN v) hd hq hw k
theorem xn_ldc {index : Nat} (v : Nat) (hd : decode Y.2.1 pc = .ok (.ldc index, 2)) (hq : pc + 2 = q) (hw : Cond.constant Y.1.cls index (nI v) ∈ xW) (k : xX G l Y d Q q ls (.int (nI v) :: st) M N S) : xX G l Y d Q pc ls st M N S := x_ldc (nI v) hd hq hw k
theorem xn_iinc {i a : Nat} {n : Int} (ks : List Nat) (w : Nat) (hd : decode Y.2.1 pc = .ok (.iinc i n, 3)) (hq : pc + 3 = q) (hv : xget ls i = some (.int (nI a))) (hw : Int32.ofInt n = nI w) (hn : i < Y.2.2.1) (hl : lv_pick ((i, Value.int (nI (a + w))) :: ls.filter (fun q => !(q.1 == i) && !(q.1 + 1 == i && q.2.category == 2))) ks = ls') (k : xX G l Y d Q q ls' st M N S) : xX G l Y d Q pc ls st M N S :=
  x_iinc ks (nI w) hd hq hv hw hn (by rw [nI_add]; exact hl) k
theorem xn_iincd {i a : Nat} {n : Int} (ks : List Nat) (hd : decode Y.2.1 pc = .ok (.iinc i n, 3)) (hq : pc + 3 = q) (hv : xget ls i = some (.int (nI a))) (hw : Int32.ofInt n = -1) (h1 : 1 ≤ a) (hn : i < Y.2.2.1) (hl : lv_pick ((i, Value.int (nI (a - 1))) :: ls.filter (fun q => !(q.1 == i) && !(q.1 + 1 == i && q.2.category == 2))) ks = ls') (k : xX G l Y d Q q ls' st M N S) : xX G l Y d Q pc ls st M N S :=
  x_iinc ks (-1) hd hq hv hw hn (by
    rw [sb_m1 (by omega : 0 < a)]; exact hl) k
end MR
end XB
