section XR1
set_option maxRecDepth 100000 in
set_option maxHeartbeats 4000000 in
theorem c_copy_loop (G : xG) (l : Launch) (o : Nat) (as : Nat → Nat) (M0 : xM) (N S : Nat) (d : Nat) (a b : Nat) (ha : a < 16) (hb : b < 16) (hab : a ≠ b) (σ : mS) (m : Nat) (hm : m ≤ 400) (hz : σ.2.1 15 a = nI m) (Q : xPost)
    (hx : ∀ σ' M, keep b σ σ' → (∀ j, j < m → σ'.2.1 14 (400 * b + j) = σ.2.1 14 (400 * a + j)) → mAt o as σ' M0 M → xX G l YX9_copy d Q 42 [(0, .ref o), (1, .int (nI a)), (2, .int (nI b)), (3, .int (nI m))] [] M N S) :
    ∀ (t i : Nat), i + t = m → ∀ σ' M, keep b σ σ' → (∀ j, j < i → σ'.2.1 14 (400 * b + j) = σ.2.1 14 (400 * a + j)) → mAt o as σ' M0 M → xX G l YX9_copy d Q 2 [(0, .ref o), (1, .int (nI a)), (2, .int (nI b)), (3, .int (nI i))] [] M N S := by
  intro t
  induction t with
  | zero =>
    intro i hi σ' M hk hj hM
    obtain rfl : i = m := by omega
    have hz' : σ'.2.1 15 a = nI i := (hk.2.2.2.1 a hab).1.trans hz
    refine x_iload_n (q := 3) dX9_copy_2 rfl rfl ?_
    refine x_aload_n (q := 4) dX9_copy_3 rfl rfl ?_
    refine m_get (q := 7) hM 15 fwX9_44 (by decide) dX9_copy_4 rfl rfl ?_
    refine x_iload_n (q := 8) dX9_copy_7 rfl rfl ?_
    refine m_iald (q := 9) hM (n := 16) (by decide) dX9_copy_8 rfl (by omega) ?_
    rw [hz']
    refine xn_icmp_ge (q := 12) 42 dX9_copy_9 (by decide) rfl (by omega) (by omega) (fun hc9 => ?_) (fun hc9 => absurd hc9 (by omega))
    exact hx σ' M hk hj hM
  | succ t ih =>
    intro i hi σ' M hk hj hM
    have hz' : σ'.2.1 15 a = nI m := (hk.2.2.2.1 a hab).1.trans hz
    refine x_iload_n (q := 3) dX9_copy_2 rfl rfl ?_
    refine x_aload_n (q := 4) dX9_copy_3 rfl rfl ?_
    refine m_get (q := 7) hM 15 fwX9_44 (by decide) dX9_copy_4 rfl rfl ?_
    refine x_iload_n (q := 8) dX9_copy_7 rfl rfl ?_
    refine m_iald (q := 9) hM (n := 16) (by decide) dX9_copy_8 rfl (by omega) ?_
    rw [hz']
    refine xn_icmp_ge (q := 12) 42 dX9_copy_9 (by decide) rfl (by omega) (by omega) (fun hc9 => absurd hc9 (by omega)) (fun hc9 => ?_)
    refine x_aload_n (q := 13) dX9_copy_12 rfl rfl ?_
    refine m_get (q := 16) hM 14 fwX9_41 (by decide) dX9_copy_13 rfl rfl ?_
    refine xn_sipush (q := 19) 400 dX9_copy_16 rfl (by decide) ?_
    refine x_iload_n (q := 20) dX9_copy_19 rfl rfl ?_
    refine xn_imul (q := 21) dX9_copy_20 rfl ?_
    refine x_iload_n (q := 22) dX9_copy_21 rfl rfl ?_
    refine xn_iadd (q := 23) dX9_copy_22 rfl ?_
    refine x_aload_n (q := 24) dX9_copy_23 rfl rfl ?_
    refine m_get (q := 27) hM 14 fwX9_41 (by decide) dX9_copy_24 rfl rfl ?_
    refine xn_sipush (q := 30) 400 dX9_copy_27 rfl (by decide) ?_
    refine x_iload_n (q := 31) dX9_copy_30 rfl rfl ?_
    refine xn_imul (q := 32) dX9_copy_31 rfl ?_
    refine x_iload_n (q := 33) dX9_copy_32 rfl rfl ?_
    refine xn_iadd (q := 34) dX9_copy_33 rfl ?_
    refine m_iald (q := 35) hM (n := 6400) (by decide) dX9_copy_34 rfl (by omega) ?_
    refine m_limb (q := 36) hM b dX9_copy_35 rfl (by omega) (by omega) (by omega) (fun M σ35 k35 e35 f35 g35 i35 hM => ?_)
    refine xn_iinc (q := 39) (ls' := [(0, _), (1, _), (2, _), (3, _)]) [1, 2, 3, 0] 1 dX9_copy_36 rfl rfl (by decide) (by decide) rfl ?_
    refine x_goto 2 dX9_copy_39 (by decide) ?_
    refine ih (i + 1) (by omega) σ35 M (hk.trans k35) (fun j hjj => ?_) hM
    by_cases e : j = i
    · subst e
      rw [e35]
      exact hk.2.2.2.2 _ (by omega)
    · rw [f35 _ (by omega)]
      exact hj j (by omega)
set_option maxRecDepth 100000 in
set_option maxHeartbeats 4000000 in
theorem c_copy (G : xG) (l : Launch) (o : Nat) (as : Nat → Nat) (M0 : xM) (N S : Nat) (d : Nat) (a b : Nat) (ha : a < 16) (hb : b < 16) (hab : a ≠ b) (σ : mS) (v : Int) (hv : Reg σ a v) : mC G l o as M0 N S YX9_copy d [.int (nI a), .int (nI b)] σ (fun r σ' => r = none ∧ keep b σ σ' ∧ Reg σ' b v) := by
  obtain ⟨m, h1, h2, h3, h4, h5⟩ := hv
  refine mC.of (ls := [(0, .ref o), (1, .int (nI a)), (2, .int (nI b))]) (by decide) (Nat.le_of_ble_eq_true rfl) rfl fun M hM => ?_
  refine xn_iconst (q := 1) 0 dX9_copy_0 rfl (by decide) ?_
  refine x_istore_n (q := 2) (ls' := [(0, _), (1, _), (2, _), (3, _)]) [1, 2, 3, 0] dX9_copy_1 rfl (by decide) rfl ?_
  refine c_copy_loop G l o as M0 N S d a b ha hb hab σ m h1 h3 _ (fun σ' M hk hj hM => ?_) m 0 (by omega) σ M keep.rfl' (fun j h => absurd h (Nat.not_lt_zero j)) hM
  have hz' : σ'.2.1 15 a = nI m := (hk.2.2.2.1 a hab).1.trans h3
  have hg' : σ'.2.1 16 a = sg v := (hk.2.2.2.1 a hab).2.trans h4
  refine x_aload_n (q := 43) dX9_copy_42 rfl rfl ?_
  refine m_get (q := 46) hM 15 fwX9_44 (by decide) dX9_copy_43 rfl rfl ?_
  refine x_iload_n (q := 47) dX9_copy_46 rfl rfl ?_
  refine x_aload_n (q := 48) dX9_copy_47 rfl rfl ?_
  refine m_get (q := 51) hM 15 fwX9_44 (by decide) dX9_copy_48 rfl rfl ?_
  refine x_iload_n (q := 52) dX9_copy_51 rfl rfl ?_
  refine m_iald (q := 53) hM (n := 16) (by decide) dX9_copy_52 rfl (by omega) ?_
  refine m_size (q := 54) hM dX9_copy_53 rfl (by omega) (fun M σ53 k53 e53 f53 g53 hM => ?_)
  refine x_aload_n (q := 55) dX9_copy_54 rfl rfl ?_
  refine m_get (q := 58) hM 16 fwX9_47 (by decide) dX9_copy_55 rfl rfl ?_
  refine x_iload_n (q := 59) dX9_copy_58 rfl rfl ?_
  refine x_aload_n (q := 60) dX9_copy_59 rfl rfl ?_
  refine m_get (q := 63) hM 16 fwX9_47 (by decide) dX9_copy_60 rfl rfl ?_
  refine x_iload_n (q := 64) dX9_copy_63 rfl rfl ?_
  refine m_iald (q := 65) hM (n := 16) (by decide) dX9_copy_64 rfl (by omega) ?_
  refine m_sign (q := 66) hM dX9_copy_65 rfl (by omega) (fun M σ65 k65 e65 f65 g65 hM => ?_)
  refine x_vret rfl dX9_copy_66 (m_ret hM ⟨rfl, (hk.trans k53).trans k65, m, h1, h2, ?_, ?_, fun j hj0 => ?_⟩)
  · rw [g65, e53, hz']
  · rw [e65, g53, hg']
  · rw [f65, f53, hj j hj0, h5 j hj0]
set_option maxRecDepth 100000 in
set_option maxHeartbeats 4000000 in
theorem c_trim_loop (G : xG) (l : Launch) (o : Nat) (as : Nat → Nat) (M0 : xM) (N S : Nat) (d : Nat) (r m : Nat) (hr : r < 16) (hm : m ≤ 400) (σ : mS) (f : Nat → Nat) (hf : ∀ j, j < m → f j < B9) (hl : ∀ j, j < m → σ.2.1 14 (400 * r + j) = nI (f j)) (Q : xPost) (M : xM) (hM : mAt o as σ M0 M)
    (hx : ∀ n, n ≤ m → (∀ j, n ≤ j → j < m → f j = 0) → (n = 0 ∨ f (n - 1) ≠ 0) → xX G l YX9_trim d Q 29 [(0, .ref o), (1, .int (nI r)), (2, .int (nI m)), (3, .int (nI n))] [] M N S) :
    ∀ n, n ≤ m → (∀ j, n ≤ j → j < m → f j = 0) → xX G l YX9_trim d Q 2 [(0, .ref o), (1, .int (nI r)), (2, .int (nI m)), (3, .int (nI n))] [] M N S := by
  intro n
  induction n with
  | zero =>
    intro hn hj
    refine x_iload_n (q := 3) dX9_trim_2 rfl rfl ?_
    refine xn_if_le (q := 6) 29 dX9_trim_3 (by decide) rfl (by omega) (fun hc3 => ?_) (fun hc3 => absurd hc3 (by omega))
    exact hx 0 hn hj (Or.inl rfl)
  | succ n ih =>
    intro hn hj
    have hl' : σ.2.1 14 (400 * r + (n + 1) - 1) = nI (f n) := hl n (by omega)
    have hfn := hf n (by omega)
    have hB9 : B9 = 1000000000 := rfl
    refine x_iload_n (q := 3) dX9_trim_2 rfl rfl ?_
    refine xn_if_le (q := 6) 29 dX9_trim_3 (by decide) rfl (by omega) (fun hc3 => absurd hc3 (by omega)) (fun hc3 => ?_)
    refine x_aload_n (q := 7) dX9_trim_6 rfl rfl ?_
    refine m_get (q := 10) hM 14 fwX9_41 (by decide) dX9_trim_7 rfl rfl ?_
    refine xn_sipush (q := 13) 400 dX9_trim_10 rfl (by decide) ?_
    refine x_iload_n (q := 14) dX9_trim_13 rfl rfl ?_
    refine xn_imul (q := 15) dX9_trim_14 rfl ?_
    refine x_iload_n (q := 16) dX9_trim_15 rfl rfl ?_
    refine xn_iadd (q := 17) dX9_trim_16 rfl ?_
    refine xn_iconst (q := 18) 1 dX9_trim_17 rfl (by decide) ?_
    refine xn_isub (q := 19) dX9_trim_18 rfl (by omega) ?_
    refine m_iald (q := 20) hM (n := 6400) (by decide) dX9_trim_19 rfl (by omega) ?_
    rw [hl']
    refine xn_if_ne (q := 23) 29 dX9_trim_20 (by decide) rfl (by omega) (fun hc20 => ?_) (fun hc20 => ?_)
    · exact hx (n + 1) hn hj (Or.inr hc20)
    · refine xn_iincd (q := 26) (ls' := [(0, _), (1, _), (2, _), (3, _)]) [1, 2, 3, 0] dX9_trim_23 rfl rfl (by decide) (by omega) (by decide) rfl ?_
      refine x_goto 2 dX9_trim_26 (by decide) ?_
      refine ih (by omega) (fun j h1 h2 => ?_)
      by_cases e : j = n
      · rw [e]; exact hc20
      · exact hj j (by omega) h2
set_option maxRecDepth 100000 in
set_option maxHeartbeats 4000000 in
theorem c_trim (G : xG) (l : Launch) (o : Nat) (as : Nat → Nat) (M0 : xM) (N S : Nat) (d : Nat) (r m : Nat) (hr : r < 16) (hm : m ≤ 400) (σ : mS) (f : Nat → Nat) (v : Int) (hf : ∀ j, j < m → f j < B9) (hl : ∀ j, j < m → σ.2.1 14 (400 * r + j) = nI (f j)) (hv : v.natAbs = val f m) (hs : v ≠ 0 → σ.2.1 16 r = sg v) : mC G l o as M0 N S YX9_trim d [.int (nI r), .int (nI m)] σ (fun x σ' => x = none ∧ keep r σ σ' ∧ Reg σ' r v) := by
  refine mC.of (ls := [(0, .ref o), (1, .int (nI r)), (2, .int (nI m))]) (by decide) (Nat.le_of_ble_eq_true rfl) rfl fun M hM => ?_
  refine x_iload_n (q := 1) dX9_trim_0 rfl rfl ?_
  refine x_istore_n (q := 2) (ls' := [(0, _), (1, _), (2, _), (3, _)]) [1, 2, 3, 0] dX9_trim_1 rfl (by decide) rfl ?_
  refine c_trim_loop G l o as M0 N S d r m hr hm σ f hf hl _ M hM (fun n hn hz ht => ?_) m (Nat.le_refl m) (fun j h1 h2 => absurd h1 (by omega))
  have hn0 : n = 0 ↔ v = 0 := by
    constructor
    · intro e
      have e2 : val f m = val (fun _ => 0) m := val_congr (fun j hj => hz j (by omega) hj)
      have e3 : ∀ m, val (fun _ => 0) m = 0 := fun m => by induction m with | zero => rfl | succ m ih => simp only [val]; rw [ih]; simp
      rw [e2, e3] at hv
      omega
    · intro e
      rcases ht with h | h
      · exact h
      · refine Classical.byContradiction (fun n0 => ?_)
        rw [e] at hv
        have hlt : n - 1 < m := by omega
        have := dg_val hf hlt
        rw [← hv] at this
        exact h (this.symm.trans (dg_hi (B9_pos _)))
  refine x_aload_n (q := 30) dX9_trim_29 rfl rfl ?_
  refine m_get (q := 33) hM 15 fwX9_44 (by decide) dX9_trim_30 rfl rfl ?_
  refine x_iload_n (q := 34) dX9_trim_33 rfl rfl ?_
  refine x_iload_n (q := 35) dX9_trim_34 rfl rfl ?_
  refine m_size (q := 36) hM dX9_trim_35 rfl (by omega) (fun M σ35 k35 e35 f35 g35 hM => ?_)
  refine x_aload_n (q := 37) dX9_trim_36 rfl rfl ?_
  refine m_get (q := 40) hM 16 fwX9_47 (by decide) dX9_trim_37 rfl rfl ?_
  refine x_iload_n (q := 41) dX9_trim_40 rfl rfl ?_
  refine x_iload_n (q := 42) dX9_trim_41 rfl rfl ?_
  refine xn_if_ne (q := 45) 49 dX9_trim_42 (by decide) rfl (by omega) (fun hc42 => ?_) (fun hc42 => ?_)
  · refine x_aload_n (q := 50) dX9_trim_49 rfl rfl ?_
    refine m_get (q := 53) hM 16 fwX9_47 (by decide) dX9_trim_50 rfl rfl ?_
    refine x_iload_n (q := 54) dX9_trim_53 rfl rfl ?_
    refine m_iald (q := 55) hM (n := 16) (by decide) dX9_trim_54 rfl (by omega) ?_
    refine m_sign (q := 56) hM dX9_trim_55 rfl (by omega) (fun M σ55 k55 e55 f55 g55 hM => ?_)
    refine x_vret rfl dX9_trim_56 (m_ret hM ⟨rfl, k35.trans k55, Reg.mk (n := n) (m := m) (f := f) (by omega) hn hf hv hz ht ?_ ?_ (fun j hj => ?_)⟩)
    · rw [g55, e35]
    · rw [e55]
      first | (rw [hn0.mp hc42]; rfl) | (rw [g35]; exact hs (fun e => hc42 (hn0.mpr e)))
    · rw [f55, f35, hl j (by omega)]
  · refine xn_iconst (q := 46) 0 dX9_trim_45 rfl (by decide) ?_
    refine x_goto 55 dX9_trim_46 (by decide) ?_
    refine m_sign (q := 56) hM dX9_trim_55 rfl (by omega) (fun M σ55 k55 e55 f55 g55 hM => ?_)
    refine x_vret rfl dX9_trim_56 (m_ret hM ⟨rfl, k35.trans k55, Reg.mk (n := n) (m := m) (f := f) (by omega) hn hf hv hz ht ?_ ?_ (fun j hj => ?_)⟩)
    · rw [g55, e35]
    · rw [e55]
      first | (rw [hn0.mp hc42]; rfl) | (rw [g35]; exact hs (fun e => hc42 (hn0.mpr e)))
    · rw [f55, f35, hl j (by omega)]
end XR1
