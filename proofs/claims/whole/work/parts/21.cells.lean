section XQ
section
variable {G : xG} {l : Launch} {Y : xY} {d : Nat} {Q : xPost} {pc q : Nat} {ls : List (Nat × Value)} {st : List Value} {M M0 : xM} {N S : Nat} {o : Nat} {as : Nat → Nat} {σ : mS}
theorem m_iastG (hM : mAt o as σ M0 M) {k n j : Nat} {x : Int32} (hk : (k, n) ∈ mInts) (hd : decode Y.2.1 pc = .ok (.iastore, 1)) (hq : pc + 1 = q) (hj : j < n) (kk : ∀ (M' : xM) (σ' : mS), σ'.1 = σ.1 → σ'.2.2 = σ.2.2 → (∀ i, i ≠ k → σ'.2.1 i = σ.2.1 i) → σ'.2.1 k j = x → (∀ i, i ≠ j → σ'.2.1 k i = σ.2.1 k i) → mAt o as σ' M0 M' → xX G l Y d Q q ls st M' N S) : xX G l Y d Q pc ls (.int x :: .int (nI j) :: .ref (as k) :: st) M N S := by
  refine m_iast hM hk hd hq hj (fun M' hM' => kk M' (σ.1, mu σ.2.1 k (upd (σ.2.1 k) j x), σ.2.2) rfl rfl (fun i hi => mu_n hi) ?_ (fun i hi => ?_) hM')
  · show mu σ.2.1 k (upd (σ.2.1 k) j x) k j = x
    rw [mu_s, pk_us]
  · show mu σ.2.1 k (upd (σ.2.1 k) j x) k i = σ.2.1 k i
    rw [mu_s, pk_un hi]
theorem m_zastG (hM : mAt o as σ M0 M) {k n j : Nat} {x : Int32} (hk : (k, n) ∈ mBools) (hd : decode Y.2.1 pc = .ok (.bastore, 1)) (hq : pc + 1 = q) (hj : j < n) (hx : vp_nar .boolean x = x) (kk : ∀ (M' : xM) (σ' : mS), σ'.1 = σ.1 → σ'.2.2 = σ.2.2 → (∀ i, i ≠ k → σ'.2.1 i = σ.2.1 i) → σ'.2.1 k j = x → (∀ i, i ≠ j → σ'.2.1 k i = σ.2.1 k i) → mAt o as σ' M0 M' → xX G l Y d Q q ls st M' N S) : xX G l Y d Q pc ls (.int x :: .int (nI j) :: .ref (as k) :: st) M N S := by
  refine m_zast hM hk hd hq hj hx (fun M' hM' => kk M' (σ.1, mu σ.2.1 k (upd (σ.2.1 k) j x), σ.2.2) rfl rfl (fun i hi => mu_n hi) ?_ (fun i hi => ?_) hM')
  · show mu σ.2.1 k (upd (σ.2.1 k) j x) k j = x
    rw [mu_s, pk_us]
  · show mu σ.2.1 k (upd (σ.2.1 k) j x) k i = σ.2.1 k i
    rw [mu_s, pk_un hi]
theorem m_lastG (hM : mAt o as σ M0 M) {k n j : Nat} {x : Int64} (hk : (k, n) ∈ mLongs) (hd : decode Y.2.1 pc = .ok (.lastore, 1)) (hq : pc + 1 = q) (hj : j < n) (kk : ∀ (M' : xM) (σ' : mS), σ'.1 = σ.1 → σ'.2.1 = σ.2.1 → (∀ i, i ≠ k → σ'.2.2 i = σ.2.2 i) → σ'.2.2 k j = x → (∀ i, i ≠ j → σ'.2.2 k i = σ.2.2 k i) → mAt o as σ' M0 M' → xX G l Y d Q q ls st M' N S) : xX G l Y d Q pc ls (.long x :: .int (nI j) :: .ref (as k) :: st) M N S := by
  refine m_last hM hk hd hq hj (fun M' hM' => kk M' (σ.1, σ.2.1, mu σ.2.2 k (vp_updL (σ.2.2 k) j x)) rfl rfl (fun i hi => mu_n hi) ?_ (fun i hi => ?_) hM')
  · show mu σ.2.2 k (vp_updL (σ.2.2 k) j x) k j = x
    rw [mu_s, pk_uLs]
  · show mu σ.2.2 k (vp_updL (σ.2.2 k) j x) k i = σ.2.2 k i
    rw [mu_s, pk_uLn hi]
end
/-- a number kept in arrays: limbs i0 (w to a number), sizes i1, signs i2 -/
def Num (i0 i1 i2 w : Nat) (σ : mS) (r : Nat) (v : Int) : Prop := ∃ n, n ≤ w ∧ nl v.natAbs n ∧ σ.2.1 i1 r = nI n ∧ σ.2.1 i2 r = sg v ∧ ∀ j, j < n → σ.2.1 i0 (w * r + j) = nI (dg v.natAbs j)
def keepN (i0 i1 i2 w b : Nat) (σ σ' : mS) : Prop := σ'.1 = σ.1 ∧ σ'.2.2 = σ.2.2 ∧ (∀ k, k ≠ i0 → k ≠ i1 → k ≠ i2 → σ'.2.1 k = σ.2.1 k) ∧ (∀ r, r ≠ b → σ'.2.1 i1 r = σ.2.1 i1 r ∧ σ'.2.1 i2 r = σ.2.1 i2 r) ∧ ∀ j, (j < w * b ∨ w * b + w ≤ j) → σ'.2.1 i0 j = σ.2.1 i0 j
abbrev Cel := Num 17 18 19 24
abbrev Hel := Num 35 36 37 24
abbrev keepc := keepN 17 18 19 24
abbrev keeph := keepN 35 36 37 24
theorem keepN.rfl' {i0 i1 i2 w b : Nat} {σ : mS} : keepN i0 i1 i2 w b σ σ := ⟨rfl, rfl, fun _ _ _ _ => rfl, fun _ _ => ⟨rfl, rfl⟩, fun _ _ => rfl⟩
theorem keepN.trans {i0 i1 i2 w b : Nat} {σ σ' σ'' : mS} (h : keepN i0 i1 i2 w b σ σ') (h2 : keepN i0 i1 i2 w b σ' σ'') : keepN i0 i1 i2 w b σ σ'' :=
  ⟨h2.1.trans h.1, h2.2.1.trans h.2.1, fun k a b c => (h2.2.2.1 k a b c).trans (h.2.2.1 k a b c), fun r hr => ⟨(h2.2.2.2.1 r hr).1.trans (h.2.2.2.1 r hr).1, (h2.2.2.2.1 r hr).2.trans (h.2.2.2.1 r hr).2⟩, fun j hj => (h2.2.2.2.2 j hj).trans (h.2.2.2.2 j hj)⟩
theorem keepN.num {i0 i1 i2 w b r : Nat} {σ σ' : mS} {v : Int} (h : keepN i0 i1 i2 w b σ σ') (hr : r ≠ b) (hv : Num i0 i1 i2 w σ r v) : Num i0 i1 i2 w σ' r v := by
  obtain ⟨n, h1, h2, h3, h4, h5⟩ := hv
  refine ⟨n, h1, h2, (h.2.2.2.1 r hr).1.trans h3, (h.2.2.2.1 r hr).2.trans h4, fun j hj => ?_⟩
  rw [h.2.2.2.2 _ ?_]
  · exact h5 j hj
  · rcases Nat.lt_or_gt_of_ne hr with e | e
    · left
      have : w * (r + 1) ≤ w * b := Nat.mul_le_mul_left w e
      rw [Nat.mul_add] at this
      omega
    · right
      have : w * (b + 1) ≤ w * r := Nat.mul_le_mul_left w e
      rw [Nat.mul_add] at this
      omega
theorem keepN.of0 {i0 i1 i2 w b j : Nat} {σ σ' : mS} (h01 : i0 ≠ i1) (h02 : i0 ≠ i2) (a : σ'.1 = σ.1) (b0 : σ'.2.2 = σ.2.2) (c : ∀ i, i ≠ i0 → σ'.2.1 i = σ.2.1 i) (f : ∀ i, i ≠ j → σ'.2.1 i0 i = σ.2.1 i0 i) (h1 : w * b ≤ j) (h2 : j < w * b + w) : keepN i0 i1 i2 w b σ σ' :=
  ⟨a, b0, fun k x _ _ => c k x, fun r _ => ⟨by rw [c i1 (Ne.symm h01)], by rw [c i2 (Ne.symm h02)]⟩, fun i hi => f i (by omega)⟩
theorem keepN.of1 {i0 i1 i2 w b : Nat} {σ σ' : mS} (h01 : i0 ≠ i1) (h12 : i1 ≠ i2) (a : σ'.1 = σ.1) (b0 : σ'.2.2 = σ.2.2) (c : ∀ i, i ≠ i1 → σ'.2.1 i = σ.2.1 i) (f : ∀ i, i ≠ b → σ'.2.1 i1 i = σ.2.1 i1 i) : keepN i0 i1 i2 w b σ σ' :=
  ⟨a, b0, fun k _ x _ => c k x, fun r hr => ⟨f r hr, by rw [c i2 (Ne.symm h12)]⟩, fun i _ => by rw [c i0 h01]⟩
theorem keepN.of2 {i0 i1 i2 w b : Nat} {σ σ' : mS} (h02 : i0 ≠ i2) (h12 : i1 ≠ i2) (a : σ'.1 = σ.1) (b0 : σ'.2.2 = σ.2.2) (c : ∀ i, i ≠ i2 → σ'.2.1 i = σ.2.1 i) (f : ∀ i, i ≠ b → σ'.2.1 i2 i = σ.2.1 i2 i) : keepN i0 i1 i2 w b σ σ' :=
  ⟨a, b0, fun k _ _ x => c k x, fun r hr => ⟨by rw [c i1 h12], f r hr⟩, fun i _ => by rw [c i0 h02]⟩
theorem Num.w {i0 i1 i2 w : Nat} {σ : mS} {r : Nat} {v : Int} (h : Num i0 i1 i2 w σ r v) : v.natAbs < B9 ^ w := by
  obtain ⟨n, h1, h2, -⟩ := h
  exact Nat.lt_of_lt_of_le h2.1 (B9_mono h1)
set_option maxRecDepth 100000 in
set_option maxHeartbeats 4000000 in
theorem c_load_loop (G : xG) (l : Launch) (o : Nat) (as : Nat → Nat) (M0 : xM) (N S : Nat) (d : Nat) (c b : Nat) (hs : c < 336) (hd : b < 16) (σ : mS) (m : Nat) (hm : m ≤ 24) (hz : σ.2.1 18 c = nI m) (Q : xPost)
    (hx : ∀ σ' M, keep b σ σ' → (∀ j, j < m → σ'.2.1 14 (400 * b + j) = σ.2.1 17 (24 * c + j)) → mAt o as σ' M0 M → xX G l YX9_load d Q 41 [(0, .ref o), (1, .int (nI c)), (2, .int (nI b)), (3, .int (nI m))] [] M N S) :
    ∀ (t i : Nat), i + t = m → ∀ σ' M, keep b σ σ' → (∀ j, j < i → σ'.2.1 14 (400 * b + j) = σ.2.1 17 (24 * c + j)) → mAt o as σ' M0 M → xX G l YX9_load d Q 2 [(0, .ref o), (1, .int (nI c)), (2, .int (nI b)), (3, .int (nI i))] [] M N S := by
  intro t
  induction t with
  | zero =>
    intro i hi σ' M hk hj hM
    obtain rfl : i = m := by omega
    have hz' : σ'.2.1 18 c = nI i := by rw [hk.2.2.1 18 (by decide) (by decide) (by decide)]; exact hz
    refine x_iload_n (q := 3) dX9_load_2 rfl rfl ?_
    refine x_aload_n (q := 4) dX9_load_3 rfl rfl ?_
    refine m_get (q := 7) hM 18 fwX9_53 (by decide) dX9_load_4 rfl rfl ?_
    refine x_iload_n (q := 8) dX9_load_7 rfl rfl ?_
    refine m_iald (q := 9) hM (n := 336) (by decide) dX9_load_8 rfl (by omega) ?_
    rw [hz']
    refine xn_icmp_ge (q := 12) 41 dX9_load_9 (by decide) rfl (by omega) (by omega) (fun hc9 => ?_) (fun hc9 => absurd hc9 (by omega))
    exact hx σ' M hk hj hM
  | succ t ih =>
    intro i hi σ' M hk hj hM
    have hz' : σ'.2.1 18 c = nI m := by rw [hk.2.2.1 18 (by decide) (by decide) (by decide)]; exact hz
    refine x_iload_n (q := 3) dX9_load_2 rfl rfl ?_
    refine x_aload_n (q := 4) dX9_load_3 rfl rfl ?_
    refine m_get (q := 7) hM 18 fwX9_53 (by decide) dX9_load_4 rfl rfl ?_
    refine x_iload_n (q := 8) dX9_load_7 rfl rfl ?_
    refine m_iald (q := 9) hM (n := 336) (by decide) dX9_load_8 rfl (by omega) ?_
    rw [hz']
    refine xn_icmp_ge (q := 12) 41 dX9_load_9 (by decide) rfl (by omega) (by omega) (fun hc9 => absurd hc9 (by omega)) (fun hc9 => ?_)
    refine x_aload_n (q := 13) dX9_load_12 rfl rfl ?_
    refine m_get (q := 16) hM 14 fwX9_41 (by decide) dX9_load_13 rfl rfl ?_
    refine xn_sipush (q := 19) 400 dX9_load_16 rfl (by decide) ?_
    refine x_iload_n (q := 20) dX9_load_19 rfl rfl ?_
    refine xn_imul (q := 21) dX9_load_20 rfl ?_
    refine x_iload_n (q := 22) dX9_load_21 rfl rfl ?_
    refine xn_iadd (q := 23) dX9_load_22 rfl ?_
    refine x_aload_n (q := 24) dX9_load_23 rfl rfl ?_
    refine m_get (q := 27) hM 17 fwX9_50 (by decide) dX9_load_24 rfl rfl ?_
    refine xn_bipush (q := 29) 24 dX9_load_27 rfl (by decide) ?_
    refine x_iload_n (q := 30) dX9_load_29 rfl rfl ?_
    refine xn_imul (q := 31) dX9_load_30 rfl ?_
    refine x_iload_n (q := 32) dX9_load_31 rfl rfl ?_
    refine xn_iadd (q := 33) dX9_load_32 rfl ?_
    refine m_iald (q := 34) hM (n := 8064) (by decide) dX9_load_33 rfl (by omega) ?_
    refine m_limb (q := 35) hM b dX9_load_34 rfl (by omega) (by omega) (by omega) (fun M σ34 k34 e34 f34 g34 i34 hM => ?_)
    refine xn_iinc (q := 38) (ls' := [(0, _), (1, _), (2, _), (3, _)]) [1, 2, 3, 0] 1 dX9_load_35 rfl rfl (by decide) (by decide) rfl ?_
    refine x_goto 2 dX9_load_38 (by decide) ?_
    refine ih (i + 1) (by omega) σ34 M (hk.trans k34) (fun j hjj => ?_) hM
    by_cases e : j = i
    · rw [e, e34, hk.2.2.1 17 (by decide) (by decide) (by decide)]
    · rw [f34 _ (by omega)]; exact hj j (by omega)
set_option maxRecDepth 100000 in
set_option maxHeartbeats 4000000 in
theorem c_load (G : xG) (l : Launch) (o : Nat) (as : Nat → Nat) (M0 : xM) (N S : Nat) (d : Nat) (c b : Nat) (hs : c < 336) (hd : b < 16) (σ : mS) (v : Int) (hv : Num 17 18 19 24 σ c v) : mC G l o as M0 N S YX9_load d [.int (nI c), .int (nI b)] σ (fun r σ' => r = none ∧ keep b σ σ' ∧ Reg σ' b v) := by
  obtain ⟨m, h1, h2, h3, h4, h5⟩ := hv
  have hmw : m ≤ 24 := h1
  refine mC.of (ls := [(0, .ref o), (1, .int (nI c)), (2, .int (nI b))]) (by decide) (Nat.le_of_ble_eq_true rfl) rfl fun M hM => ?_
  refine xn_iconst (q := 1) 0 dX9_load_0 rfl (by decide) ?_
  refine x_istore_n (q := 2) (ls' := [(0, _), (1, _), (2, _), (3, _)]) [1, 2, 3, 0] dX9_load_1 rfl (by decide) rfl ?_
  refine c_load_loop G l o as M0 N S d c b hs hd σ m hmw h3 _ (fun σ' M hk hj hM => ?_) m 0 (by omega) σ M keep.rfl' (fun j h => absurd h (Nat.not_lt_zero j)) hM
  have hz' : σ'.2.1 18 c = nI m := by rw [hk.2.2.1 18 (by decide) (by decide) (by decide)]; exact h3
  have hg' : σ'.2.1 19 c = sg v := by rw [hk.2.2.1 19 (by decide) (by decide) (by decide)]; exact h4
  refine x_aload_n (q := 42) dX9_load_41 rfl rfl ?_
  refine m_get (q := 45) hM 15 fwX9_44 (by decide) dX9_load_42 rfl rfl ?_
  refine x_iload_n (q := 46) dX9_load_45 rfl rfl ?_
  refine x_aload_n (q := 47) dX9_load_46 rfl rfl ?_
  refine m_get (q := 50) hM 18 fwX9_53 (by decide) dX9_load_47 rfl rfl ?_
  refine x_iload_n (q := 51) dX9_load_50 rfl rfl ?_
  refine m_iald (q := 52) hM (n := 336) (by decide) dX9_load_51 rfl (by omega) ?_
  refine m_size (q := 53) hM dX9_load_52 rfl (by omega) (fun M σ52 k52 e52 f52 g52 hM => ?_)
  refine x_aload_n (q := 54) dX9_load_53 rfl rfl ?_
  refine m_get (q := 57) hM 16 fwX9_47 (by decide) dX9_load_54 rfl rfl ?_
  refine x_iload_n (q := 58) dX9_load_57 rfl rfl ?_
  refine x_aload_n (q := 59) dX9_load_58 rfl rfl ?_
  refine m_get (q := 62) hM 19 fwX9_56 (by decide) dX9_load_59 rfl rfl ?_
  refine x_iload_n (q := 63) dX9_load_62 rfl rfl ?_
  refine m_iald (q := 64) hM (n := 336) (by decide) dX9_load_63 rfl (by omega) ?_
  refine m_sign (q := 65) hM dX9_load_64 rfl (by omega) (fun M σ64 k64 e64 f64 g64 hM => ?_)
  refine x_vret rfl dX9_load_65 (m_ret hM ⟨rfl, (hk.trans k52).trans k64, m, by omega, h2, ?_, ?_, fun j hj0 => ?_⟩)
  · rw [g64, e52, hz']
  · rw [e64, k52.2.2.1 19 (by decide) (by decide) (by decide), hg']
  · rw [f64, f52, hj j hj0, h5 j hj0]
set_option maxRecDepth 100000 in
set_option maxHeartbeats 4000000 in
theorem c_store_loop (G : xG) (l : Launch) (o : Nat) (as : Nat → Nat) (M0 : xM) (N S : Nat) (d : Nat) (a c : Nat) (hs : a < 16) (hd : c < 336) (σ : mS) (m : Nat) (hm : m ≤ 24) (hz : σ.2.1 15 a = nI m) (Q : xPost)
    (hx : ∀ σ' M, keepN 17 18 19 24 c σ σ' → (∀ j, j < m → σ'.2.1 17 (24 * c + j) = σ.2.1 14 (400 * a + j)) → mAt o as σ' M0 M → xX G l YX9_store d Q 41 [(0, .ref o), (1, .int (nI a)), (2, .int (nI c)), (3, .int (nI m))] [] M N S) :
    ∀ (t i : Nat), i + t = m → ∀ σ' M, keepN 17 18 19 24 c σ σ' → (∀ j, j < i → σ'.2.1 17 (24 * c + j) = σ.2.1 14 (400 * a + j)) → mAt o as σ' M0 M → xX G l YX9_store d Q 2 [(0, .ref o), (1, .int (nI a)), (2, .int (nI c)), (3, .int (nI i))] [] M N S := by
  intro t
  induction t with
  | zero =>
    intro i hi σ' M hk hj hM
    obtain rfl : i = m := by omega
    have hz' : σ'.2.1 15 a = nI i := by rw [hk.2.2.1 15 (by decide) (by decide) (by decide)]; exact hz
    refine x_iload_n (q := 3) dX9_store_2 rfl rfl ?_
    refine x_aload_n (q := 4) dX9_store_3 rfl rfl ?_
    refine m_get (q := 7) hM 15 fwX9_44 (by decide) dX9_store_4 rfl rfl ?_
    refine x_iload_n (q := 8) dX9_store_7 rfl rfl ?_
    refine m_iald (q := 9) hM (n := 16) (by decide) dX9_store_8 rfl (by omega) ?_
    rw [hz']
    refine xn_icmp_ge (q := 12) 41 dX9_store_9 (by decide) rfl (by omega) (by omega) (fun hc9 => ?_) (fun hc9 => absurd hc9 (by omega))
    exact hx σ' M hk hj hM
  | succ t ih =>
    intro i hi σ' M hk hj hM
    have hz' : σ'.2.1 15 a = nI m := by rw [hk.2.2.1 15 (by decide) (by decide) (by decide)]; exact hz
    refine x_iload_n (q := 3) dX9_store_2 rfl rfl ?_
    refine x_aload_n (q := 4) dX9_store_3 rfl rfl ?_
    refine m_get (q := 7) hM 15 fwX9_44 (by decide) dX9_store_4 rfl rfl ?_
    refine x_iload_n (q := 8) dX9_store_7 rfl rfl ?_
    refine m_iald (q := 9) hM (n := 16) (by decide) dX9_store_8 rfl (by omega) ?_
    rw [hz']
    refine xn_icmp_ge (q := 12) 41 dX9_store_9 (by decide) rfl (by omega) (by omega) (fun hc9 => absurd hc9 (by omega)) (fun hc9 => ?_)
    refine x_aload_n (q := 13) dX9_store_12 rfl rfl ?_
    refine m_get (q := 16) hM 17 fwX9_50 (by decide) dX9_store_13 rfl rfl ?_
    refine xn_bipush (q := 18) 24 dX9_store_16 rfl (by decide) ?_
    refine x_iload_n (q := 19) dX9_store_18 rfl rfl ?_
    refine xn_imul (q := 20) dX9_store_19 rfl ?_
    refine x_iload_n (q := 21) dX9_store_20 rfl rfl ?_
    refine xn_iadd (q := 22) dX9_store_21 rfl ?_
    refine x_aload_n (q := 23) dX9_store_22 rfl rfl ?_
    refine m_get (q := 26) hM 14 fwX9_41 (by decide) dX9_store_23 rfl rfl ?_
    refine xn_sipush (q := 29) 400 dX9_store_26 rfl (by decide) ?_
    refine x_iload_n (q := 30) dX9_store_29 rfl rfl ?_
    refine xn_imul (q := 31) dX9_store_30 rfl ?_
    refine x_iload_n (q := 32) dX9_store_31 rfl rfl ?_
    refine xn_iadd (q := 33) dX9_store_32 rfl ?_
    refine m_iald (q := 34) hM (n := 6400) (by decide) dX9_store_33 rfl (by omega) ?_
    refine m_iastG (q := 35) hM (n := 8064) (by decide) dX9_store_34 rfl (by omega) (fun M σ34 a34 b34 c34 e34 f34 hM => ?_)
    refine xn_iinc (q := 38) (ls' := [(0, _), (1, _), (2, _), (3, _)]) [1, 2, 3, 0] 1 dX9_store_35 rfl rfl (by decide) (by decide) rfl ?_
    refine x_goto 2 dX9_store_38 (by decide) ?_
    refine ih (i + 1) (by omega) σ34 M (hk.trans (keepN.of0 (by decide) (by decide) a34 b34 c34 f34 (by omega) (by omega))) (fun j hjj => ?_) hM
    by_cases e : j = i
    · rw [e, e34, hk.2.2.1 14 (by decide) (by decide) (by decide)]
    · rw [f34 _ (by omega)]; exact hj j (by omega)
set_option maxRecDepth 100000 in
set_option maxHeartbeats 4000000 in
theorem c_store (G : xG) (l : Launch) (o : Nat) (as : Nat → Nat) (M0 : xM) (N S : Nat) (d : Nat) (a c : Nat) (hs : a < 16) (hd : c < 336) (σ : mS) (v : Int) (hv : Reg σ a v) (hw : v.natAbs < B9 ^ 24) : mC G l o as M0 N S YX9_store d [.int (nI a), .int (nI c)] σ (fun r σ' => r = none ∧ keepN 17 18 19 24 c σ σ' ∧ Num 17 18 19 24 σ' c v) := by
  obtain ⟨m, h1, h2, h3, h4, h5⟩ := hv
  have hmw : m ≤ 24 := nl_of_le h2 hw
  refine mC.of (ls := [(0, .ref o), (1, .int (nI a)), (2, .int (nI c))]) (by decide) (Nat.le_of_ble_eq_true rfl) rfl fun M hM => ?_
  refine xn_iconst (q := 1) 0 dX9_store_0 rfl (by decide) ?_
  refine x_istore_n (q := 2) (ls' := [(0, _), (1, _), (2, _), (3, _)]) [1, 2, 3, 0] dX9_store_1 rfl (by decide) rfl ?_
  refine c_store_loop G l o as M0 N S d a c hs hd σ m hmw h3 _ (fun σ' M hk hj hM => ?_) m 0 (by omega) σ M keepN.rfl' (fun j h => absurd h (Nat.not_lt_zero j)) hM
  have hz' : σ'.2.1 15 a = nI m := by rw [hk.2.2.1 15 (by decide) (by decide) (by decide)]; exact h3
  have hg' : σ'.2.1 16 a = sg v := by rw [hk.2.2.1 16 (by decide) (by decide) (by decide)]; exact h4
  refine x_aload_n (q := 42) dX9_store_41 rfl rfl ?_
  refine m_get (q := 45) hM 18 fwX9_53 (by decide) dX9_store_42 rfl rfl ?_
  refine x_iload_n (q := 46) dX9_store_45 rfl rfl ?_
  refine x_aload_n (q := 47) dX9_store_46 rfl rfl ?_
  refine m_get (q := 50) hM 15 fwX9_44 (by decide) dX9_store_47 rfl rfl ?_
  refine x_iload_n (q := 51) dX9_store_50 rfl rfl ?_
  refine m_iald (q := 52) hM (n := 16) (by decide) dX9_store_51 rfl (by omega) ?_
  refine m_iastG (q := 53) hM (n := 336) (by decide) dX9_store_52 rfl (by omega) (fun M σ52 a52 b52 c52 e52 f52 hM => ?_)
  refine x_aload_n (q := 54) dX9_store_53 rfl rfl ?_
  refine m_get (q := 57) hM 19 fwX9_56 (by decide) dX9_store_54 rfl rfl ?_
  refine x_iload_n (q := 58) dX9_store_57 rfl rfl ?_
  refine x_aload_n (q := 59) dX9_store_58 rfl rfl ?_
  refine m_get (q := 62) hM 16 fwX9_47 (by decide) dX9_store_59 rfl rfl ?_
  refine x_iload_n (q := 63) dX9_store_62 rfl rfl ?_
  refine m_iald (q := 64) hM (n := 16) (by decide) dX9_store_63 rfl (by omega) ?_
  refine m_iastG (q := 65) hM (n := 336) (by decide) dX9_store_64 rfl (by omega) (fun M σ64 a64 b64 c64 e64 f64 hM => ?_)
  refine x_vret rfl dX9_store_65 (m_ret hM ⟨rfl, (hk.trans (keepN.of1 (by decide) (by decide) a52 b52 c52 f52)).trans (keepN.of2 (by decide) (by decide) a64 b64 c64 f64), m, by omega, h2, ?_, ?_, fun j hj0 => ?_⟩)
  · rw [c64 18 (by decide), e52, hz']
  · rw [e64, c52 16 (by decide), hg']
  · rw [c64 17 (by decide), c52 17 (by decide), hj j hj0, h5 j hj0]
set_option maxRecDepth 100000 in
set_option maxHeartbeats 4000000 in
theorem c_hold_loop (G : xG) (l : Launch) (o : Nat) (as : Nat → Nat) (M0 : xM) (N S : Nat) (d : Nat) (a c : Nat) (hs : a < 16) (hd : c < 15) (σ : mS) (m : Nat) (hm : m ≤ 24) (hz : σ.2.1 15 a = nI m) (Q : xPost)
    (hx : ∀ σ' M, keepN 35 36 37 24 c σ σ' → (∀ j, j < m → σ'.2.1 35 (24 * c + j) = σ.2.1 14 (400 * a + j)) → mAt o as σ' M0 M → xX G l YX9_hold d Q 41 [(0, .ref o), (1, .int (nI c)), (2, .int (nI a)), (3, .int (nI m))] [] M N S) :
    ∀ (t i : Nat), i + t = m → ∀ σ' M, keepN 35 36 37 24 c σ σ' → (∀ j, j < i → σ'.2.1 35 (24 * c + j) = σ.2.1 14 (400 * a + j)) → mAt o as σ' M0 M → xX G l YX9_hold d Q 2 [(0, .ref o), (1, .int (nI c)), (2, .int (nI a)), (3, .int (nI i))] [] M N S := by
  intro t
  induction t with
  | zero =>
    intro i hi σ' M hk hj hM
    obtain rfl : i = m := by omega
    have hz' : σ'.2.1 15 a = nI i := by rw [hk.2.2.1 15 (by decide) (by decide) (by decide)]; exact hz
    refine x_iload_n (q := 3) dX9_hold_2 rfl rfl ?_
    refine x_aload_n (q := 4) dX9_hold_3 rfl rfl ?_
    refine m_get (q := 7) hM 15 fwX9_44 (by decide) dX9_hold_4 rfl rfl ?_
    refine x_iload_n (q := 8) dX9_hold_7 rfl rfl ?_
    refine m_iald (q := 9) hM (n := 16) (by decide) dX9_hold_8 rfl (by omega) ?_
    rw [hz']
    refine xn_icmp_ge (q := 12) 41 dX9_hold_9 (by decide) rfl (by omega) (by omega) (fun hc9 => ?_) (fun hc9 => absurd hc9 (by omega))
    exact hx σ' M hk hj hM
  | succ t ih =>
    intro i hi σ' M hk hj hM
    have hz' : σ'.2.1 15 a = nI m := by rw [hk.2.2.1 15 (by decide) (by decide) (by decide)]; exact hz
    refine x_iload_n (q := 3) dX9_hold_2 rfl rfl ?_
    refine x_aload_n (q := 4) dX9_hold_3 rfl rfl ?_
    refine m_get (q := 7) hM 15 fwX9_44 (by decide) dX9_hold_4 rfl rfl ?_
    refine x_iload_n (q := 8) dX9_hold_7 rfl rfl ?_
    refine m_iald (q := 9) hM (n := 16) (by decide) dX9_hold_8 rfl (by omega) ?_
    rw [hz']
    refine xn_icmp_ge (q := 12) 41 dX9_hold_9 (by decide) rfl (by omega) (by omega) (fun hc9 => absurd hc9 (by omega)) (fun hc9 => ?_)
    refine x_aload_n (q := 13) dX9_hold_12 rfl rfl ?_
    refine m_get (q := 16) hM 35 fwX9_84 (by decide) dX9_hold_13 rfl rfl ?_
    refine xn_bipush (q := 18) 24 dX9_hold_16 rfl (by decide) ?_
    refine x_iload_n (q := 19) dX9_hold_18 rfl rfl ?_
    refine xn_imul (q := 20) dX9_hold_19 rfl ?_
    refine x_iload_n (q := 21) dX9_hold_20 rfl rfl ?_
    refine xn_iadd (q := 22) dX9_hold_21 rfl ?_
    refine x_aload_n (q := 23) dX9_hold_22 rfl rfl ?_
    refine m_get (q := 26) hM 14 fwX9_41 (by decide) dX9_hold_23 rfl rfl ?_
    refine xn_sipush (q := 29) 400 dX9_hold_26 rfl (by decide) ?_
    refine x_iload_n (q := 30) dX9_hold_29 rfl rfl ?_
    refine xn_imul (q := 31) dX9_hold_30 rfl ?_
    refine x_iload_n (q := 32) dX9_hold_31 rfl rfl ?_
    refine xn_iadd (q := 33) dX9_hold_32 rfl ?_
    refine m_iald (q := 34) hM (n := 6400) (by decide) dX9_hold_33 rfl (by omega) ?_
    refine m_iastG (q := 35) hM (n := 360) (by decide) dX9_hold_34 rfl (by omega) (fun M σ34 a34 b34 c34 e34 f34 hM => ?_)
    refine xn_iinc (q := 38) (ls' := [(0, _), (1, _), (2, _), (3, _)]) [1, 2, 3, 0] 1 dX9_hold_35 rfl rfl (by decide) (by decide) rfl ?_
    refine x_goto 2 dX9_hold_38 (by decide) ?_
    refine ih (i + 1) (by omega) σ34 M (hk.trans (keepN.of0 (by decide) (by decide) a34 b34 c34 f34 (by omega) (by omega))) (fun j hjj => ?_) hM
    by_cases e : j = i
    · rw [e, e34, hk.2.2.1 14 (by decide) (by decide) (by decide)]
    · rw [f34 _ (by omega)]; exact hj j (by omega)
set_option maxRecDepth 100000 in
set_option maxHeartbeats 4000000 in
theorem c_hold (G : xG) (l : Launch) (o : Nat) (as : Nat → Nat) (M0 : xM) (N S : Nat) (d : Nat) (a c : Nat) (hs : a < 16) (hd : c < 15) (σ : mS) (v : Int) (hv : Reg σ a v) (hw : v.natAbs < B9 ^ 24) : mC G l o as M0 N S YX9_hold d [.int (nI c), .int (nI a)] σ (fun r σ' => r = none ∧ keepN 35 36 37 24 c σ σ' ∧ Num 35 36 37 24 σ' c v) := by
  obtain ⟨m, h1, h2, h3, h4, h5⟩ := hv
  have hmw : m ≤ 24 := nl_of_le h2 hw
  refine mC.of (ls := [(0, .ref o), (1, .int (nI c)), (2, .int (nI a))]) (by decide) (Nat.le_of_ble_eq_true rfl) rfl fun M hM => ?_
  refine xn_iconst (q := 1) 0 dX9_hold_0 rfl (by decide) ?_
  refine x_istore_n (q := 2) (ls' := [(0, _), (1, _), (2, _), (3, _)]) [1, 2, 3, 0] dX9_hold_1 rfl (by decide) rfl ?_
  refine c_hold_loop G l o as M0 N S d a c hs hd σ m hmw h3 _ (fun σ' M hk hj hM => ?_) m 0 (by omega) σ M keepN.rfl' (fun j h => absurd h (Nat.not_lt_zero j)) hM
  have hz' : σ'.2.1 15 a = nI m := by rw [hk.2.2.1 15 (by decide) (by decide) (by decide)]; exact h3
  have hg' : σ'.2.1 16 a = sg v := by rw [hk.2.2.1 16 (by decide) (by decide) (by decide)]; exact h4
  refine x_aload_n (q := 42) dX9_hold_41 rfl rfl ?_
  refine m_get (q := 45) hM 36 fwX9_87 (by decide) dX9_hold_42 rfl rfl ?_
  refine x_iload_n (q := 46) dX9_hold_45 rfl rfl ?_
  refine x_aload_n (q := 47) dX9_hold_46 rfl rfl ?_
  refine m_get (q := 50) hM 15 fwX9_44 (by decide) dX9_hold_47 rfl rfl ?_
  refine x_iload_n (q := 51) dX9_hold_50 rfl rfl ?_
  refine m_iald (q := 52) hM (n := 16) (by decide) dX9_hold_51 rfl (by omega) ?_
  refine m_iastG (q := 53) hM (n := 15) (by decide) dX9_hold_52 rfl (by omega) (fun M σ52 a52 b52 c52 e52 f52 hM => ?_)
  refine x_aload_n (q := 54) dX9_hold_53 rfl rfl ?_
  refine m_get (q := 57) hM 37 fwX9_90 (by decide) dX9_hold_54 rfl rfl ?_
  refine x_iload_n (q := 58) dX9_hold_57 rfl rfl ?_
  refine x_aload_n (q := 59) dX9_hold_58 rfl rfl ?_
  refine m_get (q := 62) hM 16 fwX9_47 (by decide) dX9_hold_59 rfl rfl ?_
  refine x_iload_n (q := 63) dX9_hold_62 rfl rfl ?_
  refine m_iald (q := 64) hM (n := 16) (by decide) dX9_hold_63 rfl (by omega) ?_
  refine m_iastG (q := 65) hM (n := 15) (by decide) dX9_hold_64 rfl (by omega) (fun M σ64 a64 b64 c64 e64 f64 hM => ?_)
  refine x_vret rfl dX9_hold_65 (m_ret hM ⟨rfl, (hk.trans (keepN.of1 (by decide) (by decide) a52 b52 c52 f52)).trans (keepN.of2 (by decide) (by decide) a64 b64 c64 f64), m, by omega, h2, ?_, ?_, fun j hj0 => ?_⟩)
  · rw [c64 36 (by decide), e52, hz']
  · rw [e64, c52 16 (by decide), hg']
  · rw [c64 35 (by decide), c52 35 (by decide), hj j hj0, h5 j hj0]
set_option maxRecDepth 100000 in
set_option maxHeartbeats 4000000 in
theorem c_take_loop (G : xG) (l : Launch) (o : Nat) (as : Nat → Nat) (M0 : xM) (N S : Nat) (d : Nat) (c b : Nat) (tm : Int32) (hs : c < 15) (hd : b < 16) (σ : mS) (m : Nat) (hm : m ≤ 24) (hz : σ.2.1 36 c = nI m) (Q : xPost)
    (hx : ∀ σ' M, keep b σ σ' → (∀ j, j < m → σ'.2.1 14 (400 * b + j) = σ.2.1 35 (24 * c + j)) → mAt o as σ' M0 M → xX G l YX9_take d Q 45 [(0, .ref o), (1, .int (nI c)), (2, .int (nI b)), (3, .int tm), (4, .int (nI m))] [] M N S) :
    ∀ (t i : Nat), i + t = m → ∀ σ' M, keep b σ σ' → (∀ j, j < i → σ'.2.1 14 (400 * b + j) = σ.2.1 35 (24 * c + j)) → mAt o as σ' M0 M → xX G l YX9_take d Q 3 [(0, .ref o), (1, .int (nI c)), (2, .int (nI b)), (3, .int tm), (4, .int (nI i))] [] M N S := by
  intro t
  induction t with
  | zero =>
    intro i hi σ' M hk hj hM
    obtain rfl : i = m := by omega
    have hz' : σ'.2.1 36 c = nI i := by rw [hk.2.2.1 36 (by decide) (by decide) (by decide)]; exact hz
    refine x_iload (q := 5) dX9_take_3 rfl rfl ?_
    refine x_aload_n (q := 6) dX9_take_5 rfl rfl ?_
    refine m_get (q := 9) hM 36 fwX9_87 (by decide) dX9_take_6 rfl rfl ?_
    refine x_iload_n (q := 10) dX9_take_9 rfl rfl ?_
    refine m_iald (q := 11) hM (n := 15) (by decide) dX9_take_10 rfl (by omega) ?_
    rw [hz']
    refine xn_icmp_ge (q := 14) 45 dX9_take_11 (by decide) rfl (by omega) (by omega) (fun hc11 => ?_) (fun hc11 => absurd hc11 (by omega))
    exact hx σ' M hk hj hM
  | succ t ih =>
    intro i hi σ' M hk hj hM
    have hz' : σ'.2.1 36 c = nI m := by rw [hk.2.2.1 36 (by decide) (by decide) (by decide)]; exact hz
    refine x_iload (q := 5) dX9_take_3 rfl rfl ?_
    refine x_aload_n (q := 6) dX9_take_5 rfl rfl ?_
    refine m_get (q := 9) hM 36 fwX9_87 (by decide) dX9_take_6 rfl rfl ?_
    refine x_iload_n (q := 10) dX9_take_9 rfl rfl ?_
    refine m_iald (q := 11) hM (n := 15) (by decide) dX9_take_10 rfl (by omega) ?_
    rw [hz']
    refine xn_icmp_ge (q := 14) 45 dX9_take_11 (by decide) rfl (by omega) (by omega) (fun hc11 => absurd hc11 (by omega)) (fun hc11 => ?_)
    refine x_aload_n (q := 15) dX9_take_14 rfl rfl ?_
    refine m_get (q := 18) hM 14 fwX9_41 (by decide) dX9_take_15 rfl rfl ?_
    refine xn_sipush (q := 21) 400 dX9_take_18 rfl (by decide) ?_
    refine x_iload_n (q := 22) dX9_take_21 rfl rfl ?_
    refine xn_imul (q := 23) dX9_take_22 rfl ?_
    refine x_iload (q := 25) dX9_take_23 rfl rfl ?_
    refine xn_iadd (q := 26) dX9_take_25 rfl ?_
    refine x_aload_n (q := 27) dX9_take_26 rfl rfl ?_
    refine m_get (q := 30) hM 35 fwX9_84 (by decide) dX9_take_27 rfl rfl ?_
    refine xn_bipush (q := 32) 24 dX9_take_30 rfl (by decide) ?_
    refine x_iload_n (q := 33) dX9_take_32 rfl rfl ?_
    refine xn_imul (q := 34) dX9_take_33 rfl ?_
    refine x_iload (q := 36) dX9_take_34 rfl rfl ?_
    refine xn_iadd (q := 37) dX9_take_36 rfl ?_
    refine m_iald (q := 38) hM (n := 360) (by decide) dX9_take_37 rfl (by omega) ?_
    refine m_limb (q := 39) hM b dX9_take_38 rfl (by omega) (by omega) (by omega) (fun M σ38 k38 e38 f38 g38 i38 hM => ?_)
    refine xn_iinc (q := 42) (ls' := [(0, _), (1, _), (2, _), (3, _), (4, _)]) [1, 2, 3, 4, 0] 1 dX9_take_39 rfl rfl (by decide) (by decide) rfl ?_
    refine x_goto 3 dX9_take_42 (by decide) ?_
    refine ih (i + 1) (by omega) σ38 M (hk.trans k38) (fun j hjj => ?_) hM
    by_cases e : j = i
    · rw [e, e38, hk.2.2.1 35 (by decide) (by decide) (by decide)]
    · rw [f38 _ (by omega)]; exact hj j (by omega)
set_option maxRecDepth 100000 in
set_option maxHeartbeats 4000000 in
theorem c_take (G : xG) (l : Launch) (o : Nat) (as : Nat → Nat) (M0 : xM) (N S : Nat) (d : Nat) (c b : Nat) (tm : Int32) (τ : Int) (hτ : τ = 1 ∨ τ = -1) (htm : tm = iI τ) (hs : c < 15) (hd : b < 16) (σ : mS) (v : Int) (hv : Num 35 36 37 24 σ c v) : mC G l o as M0 N S YX9_take d [.int (nI c), .int (nI b), .int tm] σ (fun r σ' => r = none ∧ keep b σ σ' ∧ Reg σ' b (τ * v)) := by
  obtain ⟨m, h1, h2, h3, h4, h5⟩ := hv
  have hmw : m ≤ 24 := h1
  have hsb : sg v * tm = sg (τ * v) := by
    rcases hτ with e | e <;> subst e <;> subst htm
    · exact sg_mul_one v
    · exact sg_mul_neg v
  have hnb : (τ * v).natAbs = v.natAbs := by rcases hτ with e | e <;> subst e <;> omega
  refine mC.of (ls := [(0, .ref o), (1, .int (nI c)), (2, .int (nI b)), (3, .int tm)]) (by decide) (Nat.le_of_ble_eq_true rfl) rfl fun M hM => ?_
  refine xn_iconst (q := 1) 0 dX9_take_0 rfl (by decide) ?_
  refine x_istore (q := 3) (ls' := [(0, _), (1, _), (2, _), (3, _), (4, _)]) [1, 2, 3, 4, 0] dX9_take_1 rfl (by decide) rfl ?_
  refine c_take_loop G l o as M0 N S d c b tm hs hd σ m hmw h3 _ (fun σ' M hk hj hM => ?_) m 0 (by omega) σ M keep.rfl' (fun j h => absurd h (Nat.not_lt_zero j)) hM
  have hz' : σ'.2.1 36 c = nI m := by rw [hk.2.2.1 36 (by decide) (by decide) (by decide)]; exact h3
  have hg' : σ'.2.1 37 c = sg v := by rw [hk.2.2.1 37 (by decide) (by decide) (by decide)]; exact h4
  refine x_aload_n (q := 46) dX9_take_45 rfl rfl ?_
  refine m_get (q := 49) hM 15 fwX9_44 (by decide) dX9_take_46 rfl rfl ?_
  refine x_iload_n (q := 50) dX9_take_49 rfl rfl ?_
  refine x_aload_n (q := 51) dX9_take_50 rfl rfl ?_
  refine m_get (q := 54) hM 36 fwX9_87 (by decide) dX9_take_51 rfl rfl ?_
  refine x_iload_n (q := 55) dX9_take_54 rfl rfl ?_
  refine m_iald (q := 56) hM (n := 15) (by decide) dX9_take_55 rfl (by omega) ?_
  refine m_size (q := 57) hM dX9_take_56 rfl (by omega) (fun M σ56 k56 e56 f56 g56 hM => ?_)
  refine x_aload_n (q := 58) dX9_take_57 rfl rfl ?_
  refine m_get (q := 61) hM 16 fwX9_47 (by decide) dX9_take_58 rfl rfl ?_
  refine x_iload_n (q := 62) dX9_take_61 rfl rfl ?_
  refine x_aload_n (q := 63) dX9_take_62 rfl rfl ?_
  refine m_get (q := 66) hM 37 fwX9_90 (by decide) dX9_take_63 rfl rfl ?_
  refine x_iload_n (q := 67) dX9_take_66 rfl rfl ?_
  refine m_iald (q := 68) hM (n := 15) (by decide) dX9_take_67 rfl (by omega) ?_
  refine x_iload_n (q := 69) dX9_take_68 rfl rfl ?_
  refine x_imul (q := 70) dX9_take_69 rfl ?_
  refine m_sign (q := 71) hM dX9_take_70 rfl (by omega) (fun M σ70 k70 e70 f70 g70 hM => ?_)
  refine x_vret rfl dX9_take_71 (m_ret hM ⟨rfl, (hk.trans k56).trans k70, m, by omega, by rw [hnb]; exact h2, ?_, ?_, fun j hj0 => ?_⟩)
  · rw [g70, e56, hz']
  · rw [e70, k56.2.2.1 37 (by decide) (by decide) (by decide), hg']; exact hsb
  · rw [f70, f56, hj j hj0, h5 j hj0, hnb]
end XQ
