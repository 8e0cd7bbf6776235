section XR1
set_option maxRecDepth 100000 in
set_option maxHeartbeats 4000000 in
theorem c_copy_loop (G : xG) (l : Launch) (o : Nat) (as : Nat → Nat) (M0 : xM) (N S : Nat) (d : Nat) (a b : Nat) (ha : a < 16) (hb : b < 16) (hab : a ≠ b) (σ : mS) (v : Int) (m : Nat) (hm : m ≤ 400) (hz : σ.2.1 15 a = nI m) (Post : Option Value → mS → Prop)
    (hx : ∀ σ' M, keep b σ σ' → (∀ j, j < m → σ'.2.1 14 (400 * b + j) = σ.2.1 14 (400 * a + j)) → mAt o as σ' M0 M → xX G l YX9_copy d (mQ o as M0 N S Post) 42 [(0, .ref o), (1, .int (nI a)), (2, .int (nI b)), (3, .int (nI m))] [] M N S) :
    ∀ (t i : Nat), i + t = m → ∀ σ' M, keep b σ σ' → (∀ j, j < i → σ'.2.1 14 (400 * b + j) = σ.2.1 14 (400 * a + j)) → mAt o as σ' M0 M → xX G l YX9_copy d (mQ o as M0 N S Post) 2 [(0, .ref o), (1, .int (nI a)), (2, .int (nI b)), (3, .int (nI i))] [] M N S := by
  intro t
  induction t with
  | zero =>
    intro i hi σ' M hk hj hM
    obtain rfl : i = m := by omega
    have hz' : σ'.2.1 15 a = nI i := (hk.2.2.2.1 a hab).1.trans hz
    refine x_iload_n (q := 3) dX9_copy_2 rfl rfl ?_
    refine x_aload_n (q := 4) dX9_copy_3 rfl rfl ?_
    refine m_get (q := 7) hM 15 fwX9_44 (by decide) dX9_copy_4 rfl rfl ?_
    refine x_iload_n (q := 8) dX9_copy_7 rfl rfl ?_
    refine m_iald (q := 9) hM (n := 16) (by decide) dX9_copy_8 rfl (by omega) ?_
    rw [hz']
    refine xn_icmp_ge (q := 12) 42 dX9_copy_9 (by decide) rfl (by omega) (by omega) (fun hc9 => ?_) (fun hc9 => absurd hc9 (by omega))
    exact hx σ' M hk hj hM
  | succ t ih =>
    intro i hi σ' M hk hj hM
    have hz' : σ'.2.1 15 a = nI m := (hk.2.2.2.1 a hab).1.trans hz
    refine x_iload_n (q := 3) dX9_copy_2 rfl rfl ?_
    refine x_aload_n (q := 4) dX9_copy_3 rfl rfl ?_
    refine m_get (q := 7) hM 15 fwX9_44 (by decide) dX9_copy_4 rfl rfl ?_
    refine x_iload_n (q := 8) dX9_copy_7 rfl rfl ?_
    refine m_iald (q := 9) hM (n := 16) (by decide) dX9_copy_8 rfl (by omega) ?_
    rw [hz']
    refine xn_icmp_ge (q := 12) 42 dX9_copy_9 (by decide) rfl (by omega) (by omega) (fun hc9 => absurd hc9 (by omega)) (fun hc9 => ?_)
    refine x_aload_n (q := 13) dX9_copy_12 rfl rfl ?_
    refine m_get (q := 16) hM 14 fwX9_41 (by decide) dX9_copy_13 rfl rfl ?_
    refine xn_sipush (q := 19) 400 dX9_copy_16 rfl (by decide) ?_
    refine x_iload_n (q := 20) dX9_copy_19 rfl rfl ?_
    refine xn_imul (q := 21) dX9_copy_20 rfl ?_
    refine x_iload_n (q := 22) dX9_copy_21 rfl rfl ?_
    refine xn_iadd (q := 23) dX9_copy_22 rfl ?_
    refine x_aload_n (q := 24) dX9_copy_23 rfl rfl ?_
    refine m_get (q := 27) hM 14 fwX9_41 (by decide) dX9_copy_24 rfl rfl ?_
    refine xn_sipush (q := 30) 400 dX9_copy_27 rfl (by decide) ?_
    refine x_iload_n (q := 31) dX9_copy_30 rfl rfl ?_
    refine xn_imul (q := 32) dX9_copy_31 rfl ?_
    refine x_iload_n (q := 33) dX9_copy_32 rfl rfl ?_
    refine xn_iadd (q := 34) dX9_copy_33 rfl ?_
    refine m_iald (q := 35) hM (n := 6400) (by decide) dX9_copy_34 rfl (by omega) ?_
    refine m_iast (q := 36) hM (n := 6400) (by decide) dX9_copy_35 rfl (by omega) (fun M hM => ?_)
    refine xn_iinc (q := 39) (ls' := [(0, _), (1, _), (2, _), (3, _)]) [1, 2, 3, 0] 1 dX9_copy_36 rfl rfl (by decide) (by decide) rfl ?_
    refine x_goto 2 dX9_copy_39 (by decide) ?_
    refine ih (i + 1) (by omega) _ M (hk.trans (keep.limb (by omega) (by omega))) (fun j hjj => ?_) hM
    show mu σ'.2.1 14 _ 14 _ = _
    rw [mu_s]
    by_cases e : j = i
    · subst e
      rw [pk_us]
      exact hk.2.2.2.2 _ (by omega)
    · rw [pk_un (by omega)]
      exact hj j (by omega)
set_option maxRecDepth 100000 in
set_option maxHeartbeats 4000000 in
theorem c_copy (G : xG) (l : Launch) (o : Nat) (as : Nat → Nat) (M0 : xM) (N S : Nat) (d : Nat) (a b : Nat) (ha : a < 16) (hb : b < 16) (hab : a ≠ b) (σ : mS) (v : Int) (hv : Reg σ a v) : mC G l o as M0 N S YX9_copy d [.int (nI a), .int (nI b)] σ (fun r σ' => r = none ∧ keep b σ σ' ∧ Reg σ' b v) := by
  obtain ⟨m, h1, h2, h3, h4, h5⟩ := hv
  refine mC.of (ls := [(0, .ref o), (1, .int (nI a)), (2, .int (nI b))]) (by decide) (by decide) rfl fun M hM => ?_
  refine xn_iconst (q := 1) 0 dX9_copy_0 rfl (by decide) ?_
  refine x_istore_n (q := 2) (ls' := [(0, _), (1, _), (2, _), (3, _)]) [1, 2, 3, 0] dX9_copy_1 rfl (by decide) rfl ?_
  refine c_copy_loop G l o as M0 N S d a b ha hb hab σ v m h1 h3 _ (fun σ' M hk hj hM => ?_) m 0 (by omega) σ M keep.rfl' (fun j h => absurd h (Nat.not_lt_zero j)) hM
  have hz' : σ'.2.1 15 a = nI m := (hk.2.2.2.1 a hab).1.trans h3
  have hg' : σ'.2.1 16 a = sg v := (hk.2.2.2.1 a hab).2.trans h4
  refine x_aload_n (q := 43) dX9_copy_42 rfl rfl ?_
  refine m_get (q := 46) hM 15 fwX9_44 (by decide) dX9_copy_43 rfl rfl ?_
  refine x_iload_n (q := 47) dX9_copy_46 rfl rfl ?_
  refine x_aload_n (q := 48) dX9_copy_47 rfl rfl ?_
  refine m_get (q := 51) hM 15 fwX9_44 (by decide) dX9_copy_48 rfl rfl ?_
  refine x_iload_n (q := 52) dX9_copy_51 rfl rfl ?_
  refine m_iald (q := 53) hM (n := 16) (by decide) dX9_copy_52 rfl (by omega) ?_
  refine m_iast (q := 54) hM (n := 16) (by decide) dX9_copy_53 rfl (by omega) (fun M hM => ?_)
  refine x_aload_n (q := 55) dX9_copy_54 rfl rfl ?_
  refine m_get (q := 58) hM 16 fwX9_47 (by decide) dX9_copy_55 rfl rfl ?_
  refine x_iload_n (q := 59) dX9_copy_58 rfl rfl ?_
  refine x_aload_n (q := 60) dX9_copy_59 rfl rfl ?_
  refine m_get (q := 63) hM 16 fwX9_47 (by decide) dX9_copy_60 rfl rfl ?_
  refine x_iload_n (q := 64) dX9_copy_63 rfl rfl ?_
  refine m_iald (q := 65) hM (n := 16) (by decide) dX9_copy_64 rfl (by omega) ?_
  refine m_iast (q := 66) hM (n := 16) (by decide) dX9_copy_65 rfl (by omega) (fun M hM => ?_)
  refine x_vret rfl dX9_copy_66 (m_ret hM ⟨rfl, (hk.trans keep.size).trans keep.sign, m, h1, h2, ?_, ?_, fun j hj0 => ?_⟩)
  · show mu (mu σ'.2.1 15 _) 16 _ 15 b = _
    rw [mu_n (by decide), mu_s, pk_us]; exact hz'
  · show mu (mu σ'.2.1 15 _) 16 _ 16 b = _
    rw [mu_s, pk_us]
    show mu σ'.2.1 15 _ 16 a = _
    rw [mu_n (by decide)]; exact hg'
  · show mu (mu σ'.2.1 15 _) 16 _ 14 _ = _
    rw [mu_n (by decide), mu_n (by decide), hj j hj0]
    exact h5 j hj0
end XR1
