section XR4
abbrev pS : Type := Nat × Bool × (Nat → Nat) × (Nat → Nat) × (Nat → Nat) × (Nat → Bool)
/-- what is read up to a number of beams -/
def pst (t : List Nat) : Nat → pS
  | 0 => ((rdN t 0 false).1, (rdN t 0 false).2, fun _ => sn t 0, fun _ => 1, fun _ => 1, fun _ => false)
  | n + 1 => ((rdB t (pst t n).1 (pst t n).2.1).2.2.2.2.2.1, (rdB t (pst t n).1 (pst t n).2.1).2.2.2.2.2.2, mu (pst t n).2.2.1 (n + 1) (rdB t (pst t n).1 (pst t n).2.1).2.2.2.2.1, mu (pst t n).2.2.2.1 n (rdB t (pst t n).1 (pst t n).2.1).1, mu (pst t n).2.2.2.2.1 n (rdB t (pst t n).1 (pst t n).2.1).2.1, mu (mu (pst t n).2.2.2.2.2 (2 * n) (rdB t (pst t n).1 (pst t n).2.1).2.2.1) (2 * n + 1) (rdB t (pst t n).1 (pst t n).2.1).2.2.2.1)
def rdGo (t : List Nat) : Nat → Nat → Nat
  | 0, n => n
  | u + 1, n => if (pst t n).2.1 = false ∧ (n = 0 ∨ (pst t n).1 < t.length) then rdGo t u (n + 1) else n
def rdn (t : List Nat) : Nat := rdGo t 3 0
def rdBad (t : List Nat) : Bool := (pst t (rdn t)).2.1 || decide ((pst t (rdn t)).1 < t.length)
def rdch (t : List Nat) (k : Nat) : Nat := if k ≤ rdn t then (pst t (rdn t)).2.2.1 k else 46
def rdCf (t : List Nat) : mCf := (rdn t, (fun k => if k < rdn t then (pst t (rdn t)).2.2.2.1 k else 1), (fun k => if k < rdn t then (pst t (rdn t)).2.2.2.2.1 k else 1), (fun k => decide (k < 2 * rdn t) && (pst t (rdn t)).2.2.2.2.2 k), (fun k => decide (rdch t k = 83 ∨ rdch t k = 70)), (fun k => decide (rdch t k = 84 ∨ rdch t k = 70)), fun _ => 0)
def spRead (z : mT) : Int × mT := if rdBad z.2.1 = true then (-1 - ((pst z.2.1 (rdn z.2.1)).1 : Int), (z.1, [], z.2.2)) else ((rdn z.2.1 : Int), (rdCf z.2.1, [], []))
theorem rdN_w {t : List Nat} {f : Nat} {w : Bool} (h : (rdN t f w).2 = false) : w = false := by
  unfold rdN at h; split at h
  · rename_i e; exact e.1
  · exact absurd h (by simp)
theorem rdX_w {t : List Nat} {f : Nat} {w : Bool} (h : (rdX t f w).2 = false) : w = false := by
  unfold rdX at h; split at h
  · rename_i e; exact e.1
  · exact absurd h (by simp)
theorem rdU_w {t : List Nat} {f : Nat} {w : Bool} (h : (rdU t f w).2.2 = false) : w = false ∧ 1 ≤ (rdU t f w).1 ∧ (rdU t f w).1 ≤ 12 := by
  unfold rdU at *; split at h
  · rename_i e
    rw [if_pos e]
    split at h
    · rename_i e2
      rw [if_pos e2]
      split at h
      · exact absurd h (by simp)
      · rename_i e3
        rw [if_neg e3]
        exact ⟨e.1, by dsimp only; omega, by dsimp only; omega⟩
    · rename_i e2
      rw [if_neg e2]
      exact ⟨e.1, by dsimp only; omega, by dsimp only; omega⟩
  · exact absurd h (by simp)
theorem rdB_w {t : List Nat} {f : Nat} {w : Bool} (h : (rdB t f w).2.2.2.2.2.2 = false) : w = false ∧ (1 ≤ (rdB t f w).1 ∧ (rdB t f w).1 ≤ 12) ∧ 1 ≤ (rdB t f w).2.1 ∧ (rdB t f w).2.1 ≤ 12 := by
  have h1 := rdU_w (rdN_w h)
  have h2 := rdU_w (rdX_w h1.1)
  exact ⟨h2.1, h2.2, h1.2⟩
theorem pst_ok {t : List Nat} : ∀ n, (pst t n).2.1 = false → ∀ k, k < n → (1 ≤ (pst t n).2.2.2.1 k ∧ (pst t n).2.2.2.1 k ≤ 12) ∧ 1 ≤ (pst t n).2.2.2.2.1 k ∧ (pst t n).2.2.2.2.1 k ≤ 12
  | 0, _, k, hk => absurd hk (Nat.not_lt_zero _)
  | n + 1, h, k, hk => by
    have h1 := rdB_w h
    have ih := pst_ok n h1.1
    by_cases e : k = n
    · subst e
      show (1 ≤ mu _ k _ k ∧ mu _ k _ k ≤ 12) ∧ 1 ≤ mu _ k _ k ∧ mu _ k _ k ≤ 12
      rw [mu_s, mu_s]
      exact h1.2
    · show (1 ≤ mu _ n _ k ∧ mu _ n _ k ≤ 12) ∧ 1 ≤ mu _ n _ k ∧ mu _ n _ k ≤ 12
      rw [mu_n e, mu_n e]
      exact ih k (by omega)
theorem pst_ch {t : List Nat} (hs : ∀ f, sn t f ≤ 126) : ∀ n k, (pst t n).2.2.1 k ≤ 126
  | 0, k => hs 0
  | n + 1, k => by
    show mu _ (n + 1) _ k ≤ 126
    unfold mu
    split
    · exact hs _
    · exact pst_ch hs n k
theorem rdGo_le {t : List Nat} : ∀ u n, n ≤ rdGo t u n ∧ rdGo t u n ≤ n + u
  | 0, n => ⟨Nat.le_refl _, Nat.le_refl _⟩
  | u + 1, n => by
    unfold rdGo
    split
    · have := rdGo_le (t := t) u (n + 1); omega
    · omega
theorem rdn_le (t : List Nat) : rdn t ≤ 3 := by have := (rdGo_le (t := t) 3 0).2; unfold rdn; omega
theorem rdn_pos {t : List Nat} (h : rdBad t = false) : 1 ≤ rdn t := by
  rcases Nat.lt_or_ge 0 (rdn t) with e | e
  · exact e
  · exfalso
    have e0 : rdn t = 0 := by omega
    unfold rdBad at h
    rw [e0] at h
    have hw : (pst t 0).2.1 = false := by revert h; cases (pst t 0).2.1 <;> simp
    have : 1 ≤ rdn t := by
      unfold rdn rdGo
      rw [if_pos ⟨hw, .inl rfl⟩]
      exact (rdGo_le (t := t) 2 (0 + 1)).1
    omega
theorem rdCf_ok {t : List Nat} (h : rdBad t = false) : okCf (rdCf t) := by
  have hw : (pst t (rdn t)).2.1 = false := by revert h; unfold rdBad; cases (pst t (rdn t)).2.1 <;> simp
  refine ⟨rdn_pos h, rdn_le t, fun k hk => ?_, fun k hk => ?_, fun k hk => ?_⟩
  · show 1 ≤ (if k < rdn t then _ else 1) ∧ (if k < rdn t then _ else 1) ≤ 12
    split
    · rename_i e; exact (pst_ok _ hw k e).1
    · decide
  · show 1 ≤ (if k < rdn t then _ else 1) ∧ (if k < rdn t then _ else 1) ≤ 12
    split
    · rename_i e; exact (pst_ok _ hw k e).2
    · decide
  · show -1000 ≤ (0 : Int) ∧ (0 : Int) ≤ 1000
    decide
def Rp (σ : mS) (t : List Nat) (n : Nat) : Prop := Rd σ t (pst t n).1 (pst t n).2.1 ∧ ((pst t n).2.1 = false → (∀ k, k ≤ n → σ.2.1 31 k = nI ((pst t n).2.2.1 k)) ∧ (∀ k, k < n → σ.2.1 32 k = nI ((pst t n).2.2.2.1 k) ∧ σ.2.1 33 k = nI ((pst t n).2.2.2.2.1 k)) ∧ ∀ k, k < 2 * n → σ.2.1 34 k = bI ((pst t n).2.2.2.2.2 k))
theorem Rp.step {σ σ' : mS} {t : List Nat} {n : Nat} (h : Rp σ t n) (hb : rdBp σ σ' t (pst t n).1 (pst t n).2.1 n) : Rp σ' t (n + 1) := by
  obtain ⟨b1, b2, b3, b4, b5, b6, b7, b8, b9, b10⟩ := hb
  refine ⟨b2, fun hw => ?_⟩
  obtain ⟨i1, i2, i3⟩ := h.2 (rdB_w hw).1
  refine ⟨fun k hk => ?_, fun k hk => ⟨?_, ?_⟩, fun k hk => ?_⟩
  · show _ = nI (mu _ (n + 1) _ k)
    by_cases e : k = n + 1
    · subst e; rw [mu_s]; exact b10 hw
    · rw [mu_n e, b3 k e]; exact i1 k (by omega)
  · show _ = nI (mu _ n _ k)
    by_cases e : k = n
    · subst e; rw [mu_s]; exact b6
    · rw [mu_n e, (b4 k e).1]; exact (i2 k (by omega)).1
  · show _ = nI (mu _ n _ k)
    by_cases e : k = n
    · subst e; rw [mu_s]; exact b7
    · rw [mu_n e, (b4 k e).2]; exact (i2 k (by omega)).2
  · show _ = bI (mu (mu _ (2 * n) _) (2 * n + 1) _ k)
    by_cases e : k = 2 * n + 1
    · subst e; rw [mu_s]; exact b9
    · rw [mu_n e]
      by_cases e2 : k = 2 * n
      · subst e2; rw [mu_s]; exact b8
      · rw [mu_n e2, b5 k e2 e]; exact i3 k (by omega)
set_option maxRecDepth 100000 in
set_option maxHeartbeats 4000000 in
theorem c_read_0 (G : xG) (l : Launch) (o : Nat) (as : Nat → Nat) (M0 : xM) (N S : Nat) (d : Nat) (σ : mS) (t : List Nat) (Q : xPost) :
    ∀ (u n : Nat), n + u = 3 → ∀ σ' M, onl [29, 30] [31, 32, 33, 34] [] σ σ' → Rp σ' t n → mAt o as σ' M0 M →
    (∀ σ' M, onl [29, 30] [31, 32, 33, 34] [] σ σ' → Rp σ' t (rdGo t u n) → mAt o as σ' M0 M → xX G l YX9_read (d + 3) Q 60 [(0, .ref o), (1, .int (nI (rdGo t u n)))] [] M N S) → xX G l YX9_read (d + 3) Q 22 [(0, .ref o), (1, .int (nI n))] [] M N S := by
  intro u
  induction u with
  | zero =>
    intro n hn σ' M ho hp hM hx
    have hw := hp.1.2.2.1
    refine x_aload_n (q := 23) dX9_read_22 rfl rfl ?_
    refine m_get (q := 26) hM 30 fwX9_264 (by decide) dX9_read_23 rfl rfl ?_
    rw [hw]
    refine x_if_ne (q := 29) 60 dX9_read_26 (by decide) rfl (fun hc26 => ?_) (fun hc26 => ?_)
    · exact hx σ' M ho hp hM
    · refine x_iload_n (q := 30) dX9_read_29 rfl rfl ?_
      refine xn_iconst (q := 31) 3 dX9_read_30 rfl (by decide) ?_
      refine xn_icmp_ge (q := 34) 60 dX9_read_31 (by decide) rfl (by omega) (by omega) (fun hc31 => ?_) (fun hc31 => absurd hc31 (by omega))
      exact hx σ' M ho hp hM
  | succ u ih =>
    intro n hn σ' M ho hp hM hx
    obtain ⟨ht, h29, h30, hf⟩ := hp.1
    have h50 := ht.1
    unfold rdGo at hx
    refine x_aload_n (q := 23) dX9_read_22 rfl rfl ?_
    refine m_get (q := 26) hM 30 fwX9_264 (by decide) dX9_read_23 rfl rfl ?_
    rw [h30]
    refine x_if_ne (q := 29) 60 dX9_read_26 (by decide) rfl (fun hc26 => ?_) (fun hc26 => ?_)
    · rw [if_neg (fun h => by rw [h.1] at hc26; exact hc26 rfl)] at hx; exact hx σ' M ho hp hM
    · refine x_iload_n (q := 30) dX9_read_29 rfl rfl ?_
      refine xn_iconst (q := 31) 3 dX9_read_30 rfl (by decide) ?_
      refine xn_icmp_ge (q := 34) 60 dX9_read_31 (by decide) rfl (by omega) (by omega) (fun hc31 => absurd hc31 (by omega)) (fun hc31 => ?_)
      refine x_iload_n (q := 35) dX9_read_34 rfl rfl ?_
      refine xn_if_eq (q := 38) 49 dX9_read_35 (by decide) rfl (by omega) (fun hc35 => ?_) (fun hc35 => ?_)
      · refine x_aload_n (q := 50) dX9_read_49 rfl rfl ?_
        refine x_iload_n (q := 51) dX9_read_50 rfl rfl ?_
        refine m_call (q := 54) (As := [_]) hM imX9_readBeam ivX9_readBeam ilX9_readBeam mwX9_281 xciX9 dX9_read_51 rfl rfl rfl (Nat.le_of_ble_eq_true rfl) ?_
        refine (c_readBeam G l o as M0 N S d σ' t _ _ hp.1 n (by omega)).mono (fun x σ9 hp => ?_)
        obtain ⟨rfl, p9⟩ := hp
        intro M hM
        show xX G l _ (d + 3) _ _ _ _ M N S
        refine xn_iinc (q := 57) (ls' := [(0, _), (1, _)]) [1, 0] 1 dX9_read_54 rfl rfl (by decide) (by decide) rfl ?_
        refine x_goto 22 dX9_read_57 (by decide) ?_
        rw [if_pos ⟨bI_eq.mp hc26, by omega⟩] at hx
        exact ih (n + 1) (by omega) σ9 M (ho.trans (p9.1)) (hp.step p9) hM hx
      · refine x_aload_n (q := 39) dX9_read_38 rfl rfl ?_
        refine m_get (q := 42) hM 29 fwX9_258 (by decide) dX9_read_39 rfl rfl ?_
        rw [h29]
        refine x_aload_n (q := 43) dX9_read_42 rfl rfl ?_
        refine m_get (q := 46) hM 2 fwX9_255 (by decide) dX9_read_43 rfl rfl ?_
        rw [ht.2.1]
        refine xn_icmp_ge (q := 49) 60 dX9_read_46 (by decide) rfl (by omega) (by omega) (fun hc46 => ?_) (fun hc46 => ?_)
        · rw [if_neg (fun h => by omega)] at hx; exact hx σ' M ho hp hM
        · refine x_aload_n (q := 50) dX9_read_49 rfl rfl ?_
          refine x_iload_n (q := 51) dX9_read_50 rfl rfl ?_
          refine m_call (q := 54) (As := [_]) hM imX9_readBeam ivX9_readBeam ilX9_readBeam mwX9_281 xciX9 dX9_read_51 rfl rfl rfl (Nat.le_of_ble_eq_true rfl) ?_
          refine (c_readBeam G l o as M0 N S d σ' t _ _ hp.1 n (by omega)).mono (fun x σ9 hp => ?_)
          obtain ⟨rfl, p9⟩ := hp
          intro M hM
          show xX G l _ (d + 3) _ _ _ _ M N S
          refine xn_iinc (q := 57) (ls' := [(0, _), (1, _)]) [1, 0] 1 dX9_read_54 rfl rfl (by decide) (by decide) rfl ?_
          refine x_goto 22 dX9_read_57 (by decide) ?_
          rw [if_pos ⟨bI_eq.mp hc26, by omega⟩] at hx
          exact ih (n + 1) (by omega) σ9 M (ho.trans (p9.1)) (hp.step p9) hM hx
def P1 (σ σ' : mS) (ch : Nat → Nat) (k : Nat) : Prop := onl [] [7, 8, 9] [] σ σ' ∧ ∀ i, i < k → σ'.2.1 9 i = nI 0 ∧ σ'.2.1 7 i = bI (decide (ch i = 83 ∨ ch i = 70)) ∧ σ'.2.1 8 i = bI (decide (ch i = 84 ∨ ch i = 70))
set_option maxRecDepth 100000 in
set_option maxHeartbeats 4000000 in
theorem c_read_1 (G : xG) (l : Launch) (o : Nat) (as : Nat → Nat) (M0 : xM) (N S : Nat) (d : Nat) (σ : mS) (n : Nat) (hn : n ≤ 3) (ch : Nat → Nat) (h31 : ∀ k, k ≤ n → σ.2.1 31 k = nI (ch k)) (hch : ∀ k, n < k → ch k = 46) (hch2 : ∀ k, ch k ≤ 126) (Q : xPost)
    (hx : ∀ σ' M, P1 σ σ' ch 4 → mAt o as σ' M0 M → xX G l YX9_read d Q 204 [(0, .ref o), (1, .int (nI n)), (2, .int (nI 4))] [] M N S) :
    ∀ (u k : Nat), k + u = 4 → ∀ σ' M, P1 σ σ' ch k → mAt o as σ' M0 M → xX G l YX9_read d Q 123 [(0, .ref o), (1, .int (nI n)), (2, .int (nI k))] [] M N S := by
  intro u
  induction u with
  | zero =>
    intro k hk σ' M hp hM
    obtain rfl : k = 4 := by omega
    refine x_iload_n (q := 124) dX9_read_123 rfl rfl ?_
    refine xn_iconst (q := 125) 4 dX9_read_124 rfl (by decide) ?_
    refine xn_icmp_ge (q := 128) 204 dX9_read_125 (by decide) rfl (by omega) (by omega) (fun hc125 => ?_) (fun hc125 => absurd hc125 (by omega))
    exact hx σ' M hp hM
  | succ u ih =>
    intro k hk σ' M hp hM
    have hck := hch2 k
    have s197 : ∀ (σ1 : mS) (M : xM), onl [] [7, 9] [] σ' σ1 → σ1.2.1 9 k = nI 0 → (∀ i, i ≠ k → σ1.2.1 9 i = σ'.2.1 9 i) → σ1.2.1 7 k = bI (decide (ch k = 83 ∨ ch k = 70)) → (∀ i, i ≠ k → σ1.2.1 7 i = σ'.2.1 7 i) → mAt o as σ1 M0 M → xX G l YX9_read d Q 197 [(0, .ref o), (1, .int (nI n)), (2, .int (nI k)), (3, .int (nI (ch k)))] [.int (bI (decide (ch k = 84 ∨ ch k = 70))), .int (nI k), .ref (as 8)] M N S := by
      intro σ1 M o1 h9 g9 h7 g7 hM
      refine m_zastG (q := 198) hM (n := 4) (by decide) dX9_read_197 rfl (by omega) (bI_v _) (fun M σ197 a197 b197 c197 e197 f197 hM => ?_)
      refine xn_iinc (q := 201) (ls' := [(0, _), (1, _), (2, _), (3, _)]) [1, 2, 0, 3] 1 dX9_read_198 rfl rfl (by decide) (by decide) rfl ?_
      refine x_goto 123 dX9_read_201 (by decide) ?_
      refine x_ls (ls' := [(0, _), (1, _), (2, _)]) [0, 1, 2] rfl ?_
      refine ih (k + 1) (by omega) σ197 M ⟨hp.1.trans ((o1.mono (by simp) (by simp) (by simp)).trans ((onl.arr a197 b197 c197).mono (by simp) (by simp) (by simp))), fun i hi => ?_⟩ hM
      rw [c197 9 (by decide), c197 7 (by decide)]
      by_cases e : i = k
      · subst e; exact ⟨h9, h7, e197⟩
      · rw [g9 i e, g7 i e, f197 i e, o1.2.1 8 (by decide)]; exact hp.2 i (by omega)
    have s174 : ∀ (σ1 : mS) (M : xM), onl [] [9] [] σ' σ1 → σ1.2.1 9 k = nI 0 → (∀ i, i ≠ k → σ1.2.1 9 i = σ'.2.1 9 i) → mAt o as σ1 M0 M → xX G l YX9_read d Q 174 [(0, .ref o), (1, .int (nI n)), (2, .int (nI k)), (3, .int (nI (ch k)))] [.int (bI (decide (ch k = 83 ∨ ch k = 70))), .int (nI k), .ref (as 7)] M N S := by
      intro σ1 M o1 h9 g9 hM
      refine m_zastG (q := 175) hM (n := 4) (by decide) dX9_read_174 rfl (by omega) (bI_v _) (fun M σ174 a174 b174 c174 e174 f174 hM => ?_)
      refine x_aload_n (q := 176) dX9_read_175 rfl rfl ?_
      refine m_get (q := 179) hM 8 fwX9_26 (by decide) dX9_read_176 rfl rfl ?_
      refine x_iload_n (q := 180) dX9_read_179 rfl rfl ?_
      refine x_iload_n (q := 181) dX9_read_180 rfl rfl ?_
      refine xn_bipush (q := 183) 84 dX9_read_181 rfl (by decide) ?_
      refine xn_icmp_eq (q := 186) 192 dX9_read_183 (by decide) rfl (by omega) (by omega) (fun hc183 => ?_) (fun hc183 => ?_)
      · refine xn_iconst (q := 193) 1 dX9_read_192 rfl (by decide) ?_
        refine x_goto 197 dX9_read_193 (by decide) ?_
        have s2 := s197 σ174 M ((o1.mono (by simp) (by simp) (by simp)).trans ((onl.arr a174 b174 c174).mono (by simp) (by simp) (by simp))) (by rw [c174 9 (by decide)]; exact h9) (fun i hi => by rw [c174 9 (by decide)]; exact g9 i hi) e174 (fun i hi => by rw [f174 i hi, o1.2.1 7 (by decide)]) hM
        rw [decide_eq_true (by omega)] at s2; exact s2
      · refine x_iload_n (q := 187) dX9_read_186 rfl rfl ?_
        refine xn_bipush (q := 189) 70 dX9_read_187 rfl (by decide) ?_
        refine xn_icmp_ne (q := 192) 196 dX9_read_189 (by decide) rfl (by omega) (by omega) (fun hc189 => ?_) (fun hc189 => ?_)
        · refine xn_iconst (q := 197) 0 dX9_read_196 rfl (by decide) ?_
          have s2 := s197 σ174 M ((o1.mono (by simp) (by simp) (by simp)).trans ((onl.arr a174 b174 c174).mono (by simp) (by simp) (by simp))) (by rw [c174 9 (by decide)]; exact h9) (fun i hi => by rw [c174 9 (by decide)]; exact g9 i hi) e174 (fun i hi => by rw [f174 i hi, o1.2.1 7 (by decide)]) hM
          rw [decide_eq_false (by omega)] at s2; exact s2
        · refine xn_iconst (q := 193) 1 dX9_read_192 rfl (by decide) ?_
          refine x_goto 197 dX9_read_193 (by decide) ?_
          have s2 := s197 σ174 M ((o1.mono (by simp) (by simp) (by simp)).trans ((onl.arr a174 b174 c174).mono (by simp) (by simp) (by simp))) (by rw [c174 9 (by decide)]; exact h9) (fun i hi => by rw [c174 9 (by decide)]; exact g9 i hi) e174 (fun i hi => by rw [f174 i hi, o1.2.1 7 (by decide)]) hM
          rw [decide_eq_true (by omega)] at s2; exact s2
    have s151 : ∀ (σ1 : mS) (M : xM), onl [] [9] [] σ' σ1 → σ1.2.1 9 k = nI 0 → (∀ i, i ≠ k → σ1.2.1 9 i = σ'.2.1 9 i) → mAt o as σ1 M0 M → xX G l YX9_read d Q 151 [(0, .ref o), (1, .int (nI n)), (2, .int (nI k))] [.int (nI (ch k))] M N S := by
      intro σ1 M o1 h9 g9 hM
      refine x_istore_n (q := 152) (ls' := [(0, _), (1, _), (2, _), (3, _)]) [1, 2, 3, 0] dX9_read_151 rfl (by decide) rfl ?_
      refine x_aload_n (q := 153) dX9_read_152 rfl rfl ?_
      refine m_get (q := 156) hM 7 fwX9_23 (by decide) dX9_read_153 rfl rfl ?_
      refine x_iload_n (q := 157) dX9_read_156 rfl rfl ?_
      refine x_iload_n (q := 158) dX9_read_157 rfl rfl ?_
      refine xn_bipush (q := 160) 83 dX9_read_158 rfl (by decide) ?_
      refine xn_icmp_eq (q := 163) 169 dX9_read_160 (by decide) rfl (by omega) (by omega) (fun hc160 => ?_) (fun hc160 => ?_)
      · refine xn_iconst (q := 170) 1 dX9_read_169 rfl (by decide) ?_
        refine x_goto 174 dX9_read_170 (by decide) ?_
        have s2 := s174 σ1 M o1 h9 g9 hM
        rw [decide_eq_true (by omega)] at s2; exact s2
      · refine x_iload_n (q := 164) dX9_read_163 rfl rfl ?_
        refine xn_bipush (q := 166) 70 dX9_read_164 rfl (by decide) ?_
        refine xn_icmp_ne (q := 169) 173 dX9_read_166 (by decide) rfl (by omega) (by omega) (fun hc166 => ?_) (fun hc166 => ?_)
        · refine xn_iconst (q := 174) 0 dX9_read_173 rfl (by decide) ?_
          have s2 := s174 σ1 M o1 h9 g9 hM
          rw [decide_eq_false (by omega)] at s2; exact s2
        · refine xn_iconst (q := 170) 1 dX9_read_169 rfl (by decide) ?_
          refine x_goto 174 dX9_read_170 (by decide) ?_
          have s2 := s174 σ1 M o1 h9 g9 hM
          rw [decide_eq_true (by omega)] at s2; exact s2
    refine x_iload_n (q := 124) dX9_read_123 rfl rfl ?_
    refine xn_iconst (q := 125) 4 dX9_read_124 rfl (by decide) ?_
    refine xn_icmp_ge (q := 128) 204 dX9_read_125 (by decide) rfl (by omega) (by omega) (fun hc125 => absurd hc125 (by omega)) (fun hc125 => ?_)
    refine x_aload_n (q := 129) dX9_read_128 rfl rfl ?_
    refine m_get (q := 132) hM 9 fwX9_29 (by decide) dX9_read_129 rfl rfl ?_
    refine x_iload_n (q := 133) dX9_read_132 rfl rfl ?_
    refine xn_iconst (q := 134) 0 dX9_read_133 rfl (by decide) ?_
    refine m_iastG (q := 135) hM (n := 4) (by decide) dX9_read_134 rfl (by omega) (fun M σ134 a134 b134 c134 e134 f134 hM => ?_)
    refine x_iload_n (q := 136) dX9_read_135 rfl rfl ?_
    refine x_iload_n (q := 137) dX9_read_136 rfl rfl ?_
    refine xn_icmp_gt (q := 140) 149 dX9_read_137 (by decide) rfl (by omega) (by omega) (fun hc137 => ?_) (fun hc137 => ?_)
    · refine xn_bipush (q := 151) 46 dX9_read_149 rfl (by decide) ?_
      have s2 := s151 σ134 M (onl.arr a134 b134 c134) e134 f134 hM
      rw [hch k hc137] at s2; exact s2
    · refine x_aload_n (q := 141) dX9_read_140 rfl rfl ?_
      refine m_get (q := 144) hM 31 fwX9_72 (by decide) dX9_read_141 rfl rfl ?_
      refine x_iload_n (q := 145) dX9_read_144 rfl rfl ?_
      refine m_iald (q := 146) hM (n := 4) (by decide) dX9_read_145 rfl (by omega) ?_
      rw [show σ134.2.1 31 k = nI (ch k) by rw [c134 31 (by decide), hp.1.2.1 31 (by decide)]; exact h31 k hc137]
      refine x_goto 151 dX9_read_146 (by decide) ?_
      have s2 := s151 σ134 M (onl.arr a134 b134 c134) e134 f134 hM
      exact s2
def P2 (σ σ' : mS) (Lf Ef : Nat → Nat) (Hf : Nat → Bool) (k : Nat) : Prop := onl [] [4, 5, 6] [] σ σ' ∧ (∀ i, i < k → σ'.2.1 4 i = nI (Lf i) ∧ σ'.2.1 5 i = nI (Ef i)) ∧ ∀ i, i < 2 * k → σ'.2.1 6 i = bI (Hf i)
set_option maxRecDepth 100000 in
set_option maxHeartbeats 4000000 in
theorem c_read_2 (G : xG) (l : Launch) (o : Nat) (as : Nat → Nat) (M0 : xM) (N S : Nat) (d : Nat) (σ : mS) (n : Nat) (hn : n ≤ 3) (Lf Ef : Nat → Nat) (Hf : Nat → Bool) (h32 : ∀ k, k < n → σ.2.1 32 k = nI (Lf k)) (h33 : ∀ k, k < n → σ.2.1 33 k = nI (Ef k)) (h34 : ∀ k, k < 2 * n → σ.2.1 34 k = bI (Hf k)) (hL : ∀ k, n ≤ k → Lf k = 1) (hE : ∀ k, n ≤ k → Ef k = 1) (hH : ∀ k, 2 * n ≤ k → Hf k = false) (Q : xPost)
    (hx : ∀ σ' M, P2 σ σ' Lf Ef Hf 3 → mAt o as σ' M0 M → xX G l YX9_read d Q 321 [(0, .ref o), (1, .int (nI n)), (2, .int (nI 3))] [] M N S) :
    ∀ (u k : Nat), k + u = 3 → ∀ σ' M, P2 σ σ' Lf Ef Hf k → mAt o as σ' M0 M → xX G l YX9_read d Q 206 [(0, .ref o), (1, .int (nI n)), (2, .int (nI k))] [] M N S := by
  intro u
  induction u with
  | zero =>
    intro k hk σ' M hp hM
    obtain rfl : k = 3 := by omega
    refine x_iload_n (q := 207) dX9_read_206 rfl rfl ?_
    refine xn_iconst (q := 208) 3 dX9_read_207 rfl (by decide) ?_
    refine xn_icmp_ge (q := 211) 321 dX9_read_208 (by decide) rfl (by omega) (by omega) (fun hc208 => ?_) (fun hc208 => absurd hc208 (by omega))
    exact hx σ' M hp hM
  | succ u ih =>
    intro k hk σ' M hp hM
    have s314 : ∀ (σ1 : mS) (M : xM), onl [] [4, 5, 6] [] σ' σ1 → σ1.2.1 4 k = nI (Lf k) → (∀ i, i ≠ k → σ1.2.1 4 i = σ'.2.1 4 i) → σ1.2.1 5 k = nI (Ef k) → (∀ i, i ≠ k → σ1.2.1 5 i = σ'.2.1 5 i) → σ1.2.1 6 (2 * k) = bI (Hf (2 * k)) → (∀ i, i ≠ 2 * k → σ1.2.1 6 i = σ'.2.1 6 i) → mAt o as σ1 M0 M → xX G l YX9_read d Q 314 [(0, .ref o), (1, .int (nI n)), (2, .int (nI k))] [.int (bI (Hf (2 * k + 1))), .int (nI (2 * k + 1)), .ref (as 6)] M N S := by
      intro σ1 M o1 h4 g4 h5 g5 h6 g6 hM
      refine m_zastG (q := 315) hM (n := 6) (by decide) dX9_read_314 rfl (by omega) (bI_v _) (fun M σ314 a314 b314 c314 e314 f314 hM => ?_)
      refine xn_iinc (q := 318) (ls' := [(0, _), (1, _), (2, _)]) [1, 2, 0] 1 dX9_read_315 rfl rfl (by decide) (by decide) rfl ?_
      refine x_goto 206 dX9_read_318 (by decide) ?_
      refine ih (k + 1) (by omega) σ314 M ⟨hp.1.trans (o1.trans ((onl.arr a314 b314 c314).mono (by simp) (by simp) (by simp))), fun i hi => ?_, fun i hi => ?_⟩ hM
      · rw [c314 4 (by decide), c314 5 (by decide)]
        by_cases e : i = k
        · subst e; exact ⟨h4, h5⟩
        · rw [g4 i e, g5 i e]; exact hp.2.1 i (by omega)
      · by_cases e : i = 2 * k + 1
        · subst e; exact e314
        · rw [f314 i e]
          by_cases e2 : i = 2 * k
          · subst e2; exact h6
          · rw [g6 i e2]; exact hp.2.2 i (by omega)
    have s281 : ∀ (σ1 : mS) (M : xM), onl [] [4, 5] [] σ' σ1 → σ1.2.1 4 k = nI (Lf k) → (∀ i, i ≠ k → σ1.2.1 4 i = σ'.2.1 4 i) → σ1.2.1 5 k = nI (Ef k) → (∀ i, i ≠ k → σ1.2.1 5 i = σ'.2.1 5 i) → mAt o as σ1 M0 M → xX G l YX9_read d Q 281 [(0, .ref o), (1, .int (nI n)), (2, .int (nI k))] [.int (bI (Hf (2 * k))), .int (nI (2 * k)), .ref (as 6)] M N S := by
      intro σ1 M o1 h4 g4 h5 g5 hM
      refine m_zastG (q := 282) hM (n := 6) (by decide) dX9_read_281 rfl (by omega) (bI_v _) (fun M σ281 a281 b281 c281 e281 f281 hM => ?_)
      refine x_aload_n (q := 283) dX9_read_282 rfl rfl ?_
      refine m_get (q := 286) hM 6 fwX9_19 (by decide) dX9_read_283 rfl rfl ?_
      refine xn_iconst (q := 287) 2 dX9_read_286 rfl (by decide) ?_
      refine x_iload_n (q := 288) dX9_read_287 rfl rfl ?_
      refine xn_imul (q := 289) dX9_read_288 rfl ?_
      refine xn_iconst (q := 290) 1 dX9_read_289 rfl (by decide) ?_
      refine xn_iadd (q := 291) dX9_read_290 rfl ?_
      refine x_iload_n (q := 292) dX9_read_291 rfl rfl ?_
      refine x_iload_n (q := 293) dX9_read_292 rfl rfl ?_
      refine xn_icmp_ge (q := 296) 313 dX9_read_293 (by decide) rfl (by omega) (by omega) (fun hc293 => ?_) (fun hc293 => ?_)
      · refine xn_iconst (q := 314) 0 dX9_read_313 rfl (by decide) ?_
        have s2 := s314 σ281 M ((o1.mono (by simp) (by simp) (by simp)).trans ((onl.arr a281 b281 c281).mono (by simp) (by simp) (by simp))) (by rw [c281 4 (by decide)]; exact h4) (fun i hi => by rw [c281 4 (by decide)]; exact g4 i hi) (by rw [c281 5 (by decide)]; exact h5) (fun i hi => by rw [c281 5 (by decide)]; exact g5 i hi) e281 (fun i hi => by rw [f281 i hi, o1.2.1 6 (by decide)]) hM
        rw [hH (2 * k + 1) (by omega)] at s2; exact s2
      · refine x_aload_n (q := 297) dX9_read_296 rfl rfl ?_
        refine m_get (q := 300) hM 34 fwX9_81 (by decide) dX9_read_297 rfl rfl ?_
        refine xn_iconst (q := 301) 2 dX9_read_300 rfl (by decide) ?_
        refine x_iload_n (q := 302) dX9_read_301 rfl rfl ?_
        refine xn_imul (q := 303) dX9_read_302 rfl ?_
        refine xn_iconst (q := 304) 1 dX9_read_303 rfl (by decide) ?_
        refine xn_iadd (q := 305) dX9_read_304 rfl ?_
        refine m_zald (q := 306) hM (n := 6) (by decide) dX9_read_305 rfl (by omega) ?_
        rw [show σ281.2.1 34 (2 * k + 1) = bI (Hf (2 * k + 1)) by rw [c281 34 (by decide), o1.2.1 34 (by decide), hp.1.2.1 34 (by decide)]; exact h34 _ (by omega)]
        refine x_if_eq (q := 309) 313 dX9_read_306 (by decide) rfl (fun hc306 => ?_) (fun hc306 => ?_)
        · refine xn_iconst (q := 314) 0 dX9_read_313 rfl (by decide) ?_
          have s2 := s314 σ281 M ((o1.mono (by simp) (by simp) (by simp)).trans ((onl.arr a281 b281 c281).mono (by simp) (by simp) (by simp))) (by rw [c281 4 (by decide)]; exact h4) (fun i hi => by rw [c281 4 (by decide)]; exact g4 i hi) (by rw [c281 5 (by decide)]; exact h5) (fun i hi => by rw [c281 5 (by decide)]; exact g5 i hi) e281 (fun i hi => by rw [f281 i hi, o1.2.1 6 (by decide)]) hM
          rw [bI_eq.mp hc306] at s2; exact s2
        · refine xn_iconst (q := 310) 1 dX9_read_309 rfl (by decide) ?_
          refine x_goto 314 dX9_read_310 (by decide) ?_
          have s2 := s314 σ281 M ((o1.mono (by simp) (by simp) (by simp)).trans ((onl.arr a281 b281 c281).mono (by simp) (by simp) (by simp))) (by rw [c281 4 (by decide)]; exact h4) (fun i hi => by rw [c281 4 (by decide)]; exact g4 i hi) (by rw [c281 5 (by decide)]; exact h5) (fun i hi => by rw [c281 5 (by decide)]; exact g5 i hi) e281 (fun i hi => by rw [f281 i hi, o1.2.1 6 (by decide)]) hM
          rw [bI_ne.mp hc306] at s2; exact s2
    have s252 : ∀ (σ1 : mS) (M : xM), onl [] [4] [] σ' σ1 → σ1.2.1 4 k = nI (Lf k) → (∀ i, i ≠ k → σ1.2.1 4 i = σ'.2.1 4 i) → mAt o as σ1 M0 M → xX G l YX9_read d Q 252 [(0, .ref o), (1, .int (nI n)), (2, .int (nI k))] [.int (nI (Ef k)), .int (nI k), .ref (as 5)] M N S := by
      intro σ1 M o1 h4 g4 hM
      refine m_iastG (q := 253) hM (n := 3) (by decide) dX9_read_252 rfl (by omega) (fun M σ252 a252 b252 c252 e252 f252 hM => ?_)
      refine x_aload_n (q := 254) dX9_read_253 rfl rfl ?_
      refine m_get (q := 257) hM 6 fwX9_19 (by decide) dX9_read_254 rfl rfl ?_
      refine xn_iconst (q := 258) 2 dX9_read_257 rfl (by decide) ?_
      refine x_iload_n (q := 259) dX9_read_258 rfl rfl ?_
      refine xn_imul (q := 260) dX9_read_259 rfl ?_
      refine x_iload_n (q := 261) dX9_read_260 rfl rfl ?_
      refine x_iload_n (q := 262) dX9_read_261 rfl rfl ?_
      refine xn_icmp_ge (q := 265) 280 dX9_read_262 (by decide) rfl (by omega) (by omega) (fun hc262 => ?_) (fun hc262 => ?_)
      · refine xn_iconst (q := 281) 0 dX9_read_280 rfl (by decide) ?_
        have s2 := s281 σ252 M ((o1.mono (by simp) (by simp) (by simp)).trans ((onl.arr a252 b252 c252).mono (by simp) (by simp) (by simp))) (by rw [c252 4 (by decide)]; exact h4) (fun i hi => by rw [c252 4 (by decide)]; exact g4 i hi) e252 (fun i hi => by rw [f252 i hi, o1.2.1 5 (by decide)]) hM
        rw [hH (2 * k) (by omega)] at s2; exact s2
      · refine x_aload_n (q := 266) dX9_read_265 rfl rfl ?_
        refine m_get (q := 269) hM 34 fwX9_81 (by decide) dX9_read_266 rfl rfl ?_
        refine xn_iconst (q := 270) 2 dX9_read_269 rfl (by decide) ?_
        refine x_iload_n (q := 271) dX9_read_270 rfl rfl ?_
        refine xn_imul (q := 272) dX9_read_271 rfl ?_
        refine m_zald (q := 273) hM (n := 6) (by decide) dX9_read_272 rfl (by omega) ?_
        rw [show σ252.2.1 34 (2 * k) = bI (Hf (2 * k)) by rw [c252 34 (by decide), o1.2.1 34 (by decide), hp.1.2.1 34 (by decide)]; exact h34 _ (by omega)]
        refine x_if_eq (q := 276) 280 dX9_read_273 (by decide) rfl (fun hc273 => ?_) (fun hc273 => ?_)
        · refine xn_iconst (q := 281) 0 dX9_read_280 rfl (by decide) ?_
          have s2 := s281 σ252 M ((o1.mono (by simp) (by simp) (by simp)).trans ((onl.arr a252 b252 c252).mono (by simp) (by simp) (by simp))) (by rw [c252 4 (by decide)]; exact h4) (fun i hi => by rw [c252 4 (by decide)]; exact g4 i hi) e252 (fun i hi => by rw [f252 i hi, o1.2.1 5 (by decide)]) hM
          rw [bI_eq.mp hc273] at s2; exact s2
        · refine xn_iconst (q := 277) 1 dX9_read_276 rfl (by decide) ?_
          refine x_goto 281 dX9_read_277 (by decide) ?_
          have s2 := s281 σ252 M ((o1.mono (by simp) (by simp) (by simp)).trans ((onl.arr a252 b252 c252).mono (by simp) (by simp) (by simp))) (by rw [c252 4 (by decide)]; exact h4) (fun i hi => by rw [c252 4 (by decide)]; exact g4 i hi) e252 (fun i hi => by rw [f252 i hi, o1.2.1 5 (by decide)]) hM
          rw [bI_ne.mp hc273] at s2; exact s2
    have s231 : ∀ (M : xM), mAt o as σ' M0 M → xX G l YX9_read d Q 231 [(0, .ref o), (1, .int (nI n)), (2, .int (nI k))] [.int (nI (Lf k)), .int (nI k), .ref (as 4)] M N S := by
      intro M hM
      refine m_iastG (q := 232) hM (n := 3) (by decide) dX9_read_231 rfl (by omega) (fun M σ231 a231 b231 c231 e231 f231 hM => ?_)
      refine x_aload_n (q := 233) dX9_read_232 rfl rfl ?_
      refine m_get (q := 236) hM 5 fwX9_16 (by decide) dX9_read_233 rfl rfl ?_
      refine x_iload_n (q := 237) dX9_read_236 rfl rfl ?_
      refine x_iload_n (q := 238) dX9_read_237 rfl rfl ?_
      refine x_iload_n (q := 239) dX9_read_238 rfl rfl ?_
      refine xn_icmp_ge (q := 242) 251 dX9_read_239 (by decide) rfl (by omega) (by omega) (fun hc239 => ?_) (fun hc239 => ?_)
      · refine xn_iconst (q := 252) 1 dX9_read_251 rfl (by decide) ?_
        have s2 := s252 σ231 M (onl.arr a231 b231 c231) e231 f231 hM
        rw [hE k (by omega)] at s2; exact s2
      · refine x_aload_n (q := 243) dX9_read_242 rfl rfl ?_
        refine m_get (q := 246) hM 33 fwX9_78 (by decide) dX9_read_243 rfl rfl ?_
        refine x_iload_n (q := 247) dX9_read_246 rfl rfl ?_
        refine m_iald (q := 248) hM (n := 3) (by decide) dX9_read_247 rfl (by omega) ?_
        rw [show σ231.2.1 33 k = nI (Ef k) by rw [c231 33 (by decide), hp.1.2.1 33 (by decide)]; exact h33 _ (by omega)]
        refine x_goto 252 dX9_read_248 (by decide) ?_
        have s2 := s252 σ231 M (onl.arr a231 b231 c231) e231 f231 hM
        exact s2
    refine x_iload_n (q := 207) dX9_read_206 rfl rfl ?_
    refine xn_iconst (q := 208) 3 dX9_read_207 rfl (by decide) ?_
    refine xn_icmp_ge (q := 211) 321 dX9_read_208 (by decide) rfl (by omega) (by omega) (fun hc208 => absurd hc208 (by omega)) (fun hc208 => ?_)
    refine x_aload_n (q := 212) dX9_read_211 rfl rfl ?_
    refine m_get (q := 215) hM 4 fwX9_13 (by decide) dX9_read_212 rfl rfl ?_
    refine x_iload_n (q := 216) dX9_read_215 rfl rfl ?_
    refine x_iload_n (q := 217) dX9_read_216 rfl rfl ?_
    refine x_iload_n (q := 218) dX9_read_217 rfl rfl ?_
    refine xn_icmp_ge (q := 221) 230 dX9_read_218 (by decide) rfl (by omega) (by omega) (fun hc218 => ?_) (fun hc218 => ?_)
    · refine xn_iconst (q := 231) 1 dX9_read_230 rfl (by decide) ?_
      have s2 := s231 M hM
      rw [hL k (by omega)] at s2; exact s2
    · refine x_aload_n (q := 222) dX9_read_221 rfl rfl ?_
      refine m_get (q := 225) hM 32 fwX9_75 (by decide) dX9_read_222 rfl rfl ?_
      refine x_iload_n (q := 226) dX9_read_225 rfl rfl ?_
      refine m_iald (q := 227) hM (n := 3) (by decide) dX9_read_226 rfl (by omega) ?_
      rw [show σ'.2.1 32 k = nI (Lf k) by rw [hp.1.2.1 32 (by decide)]; exact h32 _ (by omega)]
      refine x_goto 231 dX9_read_227 (by decide) ?_
      have s2 := s231 M hM
      exact s2
set_option maxRecDepth 100000 in
set_option maxHeartbeats 4000000 in
theorem c_read (G : xG) (l : Launch) (o : Nat) (as : Nat → Nat) (M0 : xM) (N S : Nat) (d : Nat) (σ : mS) (z : mT) (hR : RR σ z) : mC G l o as M0 N S YX9_read (d + 3) [] σ (fun x σ' => x = some (.int (iI (spRead z).1)) ∧ RR σ' (spRead z).2) := by
  have ht := hR.2.1
  have h50 := ht.1
  refine mC.of (ls := [(0, .ref o)]) (by decide) (Nat.le_of_ble_eq_true rfl) rfl fun M hM => ?_
  refine x_aload_n (q := 1) dX9_read_0 rfl rfl ?_
  refine xn_iconst (q := 2) 0 dX9_read_1 rfl (by decide) ?_
  refine m_putG (q := 5) hM 0 fwX9_97 (by decide) rfl rfl rfl dX9_read_2 rfl rfl rfl (fun M σ2 a2 e2 b2 hM => ?_)
  refine x_aload_n (q := 6) dX9_read_5 rfl rfl ?_
  refine xn_iconst (q := 7) 0 dX9_read_6 rfl (by decide) ?_
  refine m_putG (q := 10) hM 29 fwX9_258 (by decide) rfl rfl rfl dX9_read_7 rfl rfl rfl (fun M σ7 a7 e7 b7 hM => ?_)
  refine x_aload_n (q := 11) dX9_read_10 rfl rfl ?_
  refine xn_iconst (q := 12) 0 dX9_read_11 rfl (by decide) ?_
  refine m_putG (q := 15) hM 30 fwX9_264 (by decide) rfl rfl rfl dX9_read_12 rfl rfl rfl (fun M σ12 a12 e12 b12 hM => ?_)
  refine x_aload_n (q := 16) dX9_read_15 rfl rfl ?_
  refine xn_iconst (q := 17) 0 dX9_read_16 rfl (by decide) ?_
  refine m_call (q := 20) (As := [_]) hM imX9_readNode ivX9_readNode ilX9_readNode mwX9_278 xciX9 dX9_read_17 rfl rfl rfl (Nat.le_of_ble_eq_true rfl) ?_
  have r12 : Rd σ12 z.2.1 0 false := ⟨(((ht.on (onl.fld a2 b2) (by decide) (by decide)).on (onl.fld a7 b7) (by decide) (by decide))).on (onl.fld a12 b12) (by decide) (by decide), by rw [a12 29 (by decide)]; exact e7, e12, Nat.zero_le _⟩
  refine (c_readNode G l o as M0 N S (d + 1) σ12 z.2.1 0 false r12 0 (by decide)).mono (fun x σ9 hp => ?_)
  obtain ⟨rfl, o9, r9, e9, f9⟩ := hp
  intro M hM
  show xX G l _ (d + 3) _ _ _ _ M N S
  refine xn_iconst (q := 21) 0 dX9_read_20 rfl (by decide) ?_
  refine x_istore_n (q := 22) (ls' := [(0, _), (1, _)]) [1, 0] dX9_read_21 rfl (by decide) rfl ?_
  have oA : onl [0, 29, 30] [31] [] σ σ9 := (((onl.fld a2 b2).mono (by simp) (by simp) (by simp)).trans (((onl.fld a7 b7).mono (by simp) (by simp) (by simp)).trans ((onl.fld a12 b12).mono (by simp) (by simp) (by simp)))).trans (o9.mono (by simp) (by simp) (by simp))
  have p0 : Rp σ9 z.2.1 0 := ⟨r9, fun h => ⟨fun k hk => by rw [Nat.le_zero.mp hk]; exact f9 h, fun k hk => absurd hk (Nat.not_lt_zero _), fun k hk => absurd hk (by omega)⟩⟩
  refine c_read_0 G l o as M0 N S d σ9 z.2.1 _ 3 0 rfl σ9 M onl.rfl' p0 hM (fun σ1 M o1 p1 hM => ?_)
  have hgo : rdGo z.2.1 3 0 = rdn z.2.1 := rfl
  rw [hgo] at p1; rw [hgo]; clear hgo
  have oB : onl [0, 29, 30] [31, 32, 33, 34] [] σ σ1 := (oA.mono (by simp) (by simp) (by simp)).trans (o1.mono (by simp) (by simp) (by simp))
  obtain ⟨⟨t1, h29, h30, hf⟩, p1⟩ := p1
  have hn3 := rdn_le z.2.1
  have good : ∀ (M : xM), rdBad z.2.1 = false → mAt o as σ1 M0 M → xX G l YX9_read (d + 3) (mQ o as M0 N S (fun x σ' => x = some (.int (iI (spRead z).1)) ∧ RR σ' (spRead z).2)) 84 [(0, .ref o), (1, .int (nI (rdn z.2.1)))] [.int (bI false), .ref o] M N S := by
    intro M hb hM
    have hw : (pst z.2.1 (rdn z.2.1)).2.1 = false := by revert hb; unfold rdBad; cases (pst z.2.1 (rdn z.2.1)).2.1 <;> simp
    obtain ⟨q1, q2, q3⟩ := p1 hw
    have e0 : spRead z = ((rdn z.2.1 : Int), (rdCf z.2.1, [], [])) := by unfold spRead; exact if_neg (by rw [hb]; decide)
    rw [e0]
    refine m_putG (q := 87) hM 30 fwX9_264 (by decide) rfl rfl rfl dX9_read_84 rfl (bI_n _) (bI_f _) (fun M σ84 a84 e84 b84 hM => ?_)
    refine x_aload_n (q := 88) dX9_read_87 rfl rfl ?_
    refine xn_iconst (q := 89) 0 dX9_read_88 rfl (by decide) ?_
    refine m_putG (q := 92) hM 2 fwX9_255 (by decide) rfl rfl rfl dX9_read_89 rfl rfl rfl (fun M σ89 a89 e89 b89 hM => ?_)
    refine x_aload_n (q := 93) dX9_read_92 rfl rfl ?_
    refine m_get (q := 96) hM 30 fwX9_264 (by decide) dX9_read_93 rfl rfl ?_
    rw [show σ89.1 30 = bI false by rw [a89 30 (by decide)]; exact e84]
    refine x_if_eq (q := 99) 106 dX9_read_96 (by decide) rfl (fun hc96 => ?_) (fun hc96 => absurd rfl hc96)
    refine x_aload_n (q := 107) dX9_read_106 rfl rfl ?_
    refine x_iload_n (q := 108) dX9_read_107 rfl rfl ?_
    refine m_putG (q := 111) hM 3 fwX9_93 (by decide) rfl rfl rfl dX9_read_108 rfl rfl rfl (fun M σ108 a108 e108 b108 hM => ?_)
    refine x_aload_n (q := 112) dX9_read_111 rfl rfl ?_
    refine xn_iconst (q := 113) 0 dX9_read_112 rfl (by decide) ?_
    refine m_putG (q := 116) hM 10 fwX9_284 (by decide) rfl rfl rfl dX9_read_113 rfl rfl rfl (fun M σ113 a113 e113 b113 hM => ?_)
    refine x_aload_n (q := 117) dX9_read_116 rfl rfl ?_
    refine xn_iconst (q := 118) 0 dX9_read_117 rfl (by decide) ?_
    refine m_putG (q := 121) hM 22 fwX9_205 (by decide) rfl rfl rfl dX9_read_118 rfl rfl rfl (fun M σ118 a118 e118 b118 hM => ?_)
    refine xn_iconst (q := 122) 0 dX9_read_121 rfl (by decide) ?_
    refine x_istore_n (q := 123) (ls' := [(0, _), (1, _), (2, _)]) [1, 2, 0] dX9_read_122 rfl (by decide) rfl ?_
    have oC : onl [2, 3, 10, 22, 30] [] [] σ1 σ118 := ((onl.fld a84 b84).mono (by simp) (by simp) (by simp)).trans (((onl.fld a89 b89).mono (by simp) (by simp) (by simp)).trans (((onl.fld a108 b108).mono (by simp) (by simp) (by simp)).trans (((onl.fld a113 b113).mono (by simp) (by simp) (by simp)).trans ((onl.fld a118 b118).mono (by simp) (by simp) (by simp)))))
    have hcc : ∀ k, rdch z.2.1 k ≤ 126 := fun k => by
      unfold rdch; split
      · exact pst_ch (sn_le ht.2.2.2) _ _
      · decide
    refine c_read_1 G l o as M0 N S _ σ118 (rdn z.2.1) hn3 (rdch z.2.1) (fun k hk => by rw [oC.2.1 31 (by simp)]; unfold rdch; rw [if_pos hk]; exact q1 k hk) (fun k hk => by unfold rdch; exact if_neg (by omega)) hcc _ (fun σ2 M p2 hM => ?_) 4 0 rfl σ118 M ⟨onl.rfl', fun i hi => absurd hi (Nat.not_lt_zero _)⟩ hM
    refine xn_iconst (q := 205) 0 dX9_read_204 rfl (by decide) ?_
    refine x_istore_n (q := 206) (ls' := [(0, _), (1, _), (2, _)]) [1, 2, 0] dX9_read_205 rfl (by decide) rfl ?_
    refine c_read_2 G l o as M0 N S _ σ2 (rdn z.2.1) hn3 (rdCf z.2.1).L (rdCf z.2.1).E (rdCf z.2.1).Hg (fun k hk => ?_) (fun k hk => ?_) (fun k hk => ?_) (fun k hk => if_neg (by omega)) (fun k hk => if_neg (by omega)) (fun k hk => ?_) _ (fun σ3 M p3 hM => ?_) 3 0 rfl σ2 M ⟨onl.rfl', fun i hi => absurd hi (Nat.not_lt_zero _), fun i hi => absurd hi (by omega)⟩ hM
    · rw [p2.1.2.1 32 (by decide), oC.2.1 32 (by simp)]; show _ = nI (if k < rdn z.2.1 then _ else 1); rw [if_pos hk]; exact (q2 k hk).1
    · rw [p2.1.2.1 33 (by decide), oC.2.1 33 (by simp)]; show _ = nI (if k < rdn z.2.1 then _ else 1); rw [if_pos hk]; exact (q2 k hk).2
    · rw [p2.1.2.1 34 (by decide), oC.2.1 34 (by simp)]; show _ = bI (decide (k < 2 * rdn z.2.1) && _); rw [decide_eq_true hk, Bool.true_and]; exact q3 k hk
    · show (decide (k < 2 * rdn z.2.1) && _) = false; rw [decide_eq_false (by omega), Bool.false_and]
    refine x_iload_n (q := 322) dX9_read_321 rfl rfl ?_
    refine x_iret rfl dX9_read_322 (m_ret hM ⟨by rw [nI_i], ⟨⟨rdCf_ok hb, ?_, fun k hk => (p3.2.1 k (Nat.lt_of_lt_of_le (show k < rdn z.2.1 from hk) hn3)).1, fun k hk => (p3.2.1 k (Nat.lt_of_lt_of_le (show k < rdn z.2.1 from hk) hn3)).2, fun k hk => p3.2.2 k hk, fun k hk => ?_, fun k hk => ?_, fun k hk => ?_⟩, .inl ?_⟩, ⟨Nat.zero_le _, ?_, fun i hi => absurd hi (Nat.not_lt_zero _), fun i hi => absurd hi (Nat.not_lt_zero _)⟩, ⟨Nat.zero_le _, ?_, fun i hi => absurd hi (Nat.not_lt_zero _)⟩⟩)
    · rw [p3.1.1 3 (by decide), p2.1.1 3 (by decide), a118 3 (by decide), a113 3 (by decide)]; exact e108
    · rw [p3.1.2.1 7 (by decide)]; exact (p2.2 k hk).2.1
    · rw [p3.1.2.1 8 (by decide)]; exact (p2.2 k hk).2.2
    · rw [p3.1.2.1 9 (by decide)]; exact (p2.2 k hk).1
    · rw [p3.1.1 22 (by decide), p2.1.1 22 (by decide)]; exact e118
    · rw [p3.1.1 2 (by decide), p2.1.1 2 (by decide), a118 2 (by decide), a113 2 (by decide), a108 2 (by decide)]; exact e89
    · rw [p3.1.1 10 (by decide), p2.1.1 10 (by decide), a118 10 (by decide)]; exact e113
  have bad : ∀ (M : xM), rdBad z.2.1 = true → mAt o as σ1 M0 M → xX G l YX9_read (d + 3) (mQ o as M0 N S (fun x σ' => x = some (.int (iI (spRead z).1)) ∧ RR σ' (spRead z).2)) 84 [(0, .ref o), (1, .int (nI (rdn z.2.1)))] [.int (bI true), .ref o] M N S := by
    intro M hb hM
    have e0 : spRead z = (-1 - ((pst z.2.1 (rdn z.2.1)).1 : Int), (z.1, [], z.2.2)) := by unfold spRead; exact if_pos hb
    rw [e0]
    refine m_putG (q := 87) hM 30 fwX9_264 (by decide) rfl rfl rfl dX9_read_84 rfl (bI_n _) (bI_f _) (fun M σ84 a84 e84 b84 hM => ?_)
    refine x_aload_n (q := 88) dX9_read_87 rfl rfl ?_
    refine xn_iconst (q := 89) 0 dX9_read_88 rfl (by decide) ?_
    refine m_putG (q := 92) hM 2 fwX9_255 (by decide) rfl rfl rfl dX9_read_89 rfl rfl rfl (fun M σ89 a89 e89 b89 hM => ?_)
    refine x_aload_n (q := 93) dX9_read_92 rfl rfl ?_
    refine m_get (q := 96) hM 30 fwX9_264 (by decide) dX9_read_93 rfl rfl ?_
    rw [show σ89.1 30 = bI true by rw [a89 30 (by decide)]; exact e84]
    refine x_if_eq (q := 99) 106 dX9_read_96 (by decide) rfl (fun hc96 => absurd hc96 (by decide)) (fun hc96 => ?_)
    refine x_iconst (q := 100) (iI (-1)) dX9_read_99 rfl (by decide) ?_
    refine x_aload_n (q := 101) dX9_read_100 rfl rfl ?_
    refine m_get (q := 104) hM 29 fwX9_258 (by decide) dX9_read_101 rfl rfl ?_
    rw [show σ89.1 29 = nI (pst z.2.1 (rdn z.2.1)).1 by rw [a89 29 (by decide), a84 29 (by decide)]; exact h29]
    refine xi_isub (q := 105) dX9_read_104 rfl rfl (nI_i _) ?_
    have oC : onl [0, 2, 29, 30] [31, 32, 33, 34] [] σ σ89 := (oB.mono (by simp) (by simp) (by simp)).trans (((onl.fld a84 b84).mono (by simp) (by simp) (by simp)).trans ((onl.fld a89 b89).mono (by simp) (by simp) (by simp)))
    refine x_iret rfl dX9_read_105 (m_ret hM ⟨rfl, ⟨hR.1.1.on oC (by decide) (by decide) (by decide) (by decide) (by decide) (by decide) (by decide), ?_⟩, ⟨by simp, e89, fun i hi => absurd hi (Nat.not_lt_zero _), fun i hi => absurd hi (Nat.not_lt_zero _)⟩, hR.2.2.on oC (by decide) (by decide) (by decide) (by decide)⟩)
    rcases hR.1.2 with e | ⟨e, f⟩
    · exact .inl ((oC.1 22 (by decide)).trans e)
    · exact .inr ⟨(oC.1 22 (by decide)).trans e, f.on oC (by decide) (by decide)⟩
  refine x_aload_n (q := 61) dX9_read_60 rfl rfl ?_
  refine x_aload_n (q := 62) dX9_read_61 rfl rfl ?_
  refine m_get (q := 65) hM 30 fwX9_264 (by decide) dX9_read_62 rfl rfl ?_
  rw [h30]
  refine x_if_ne (q := 68) 79 dX9_read_65 (by decide) rfl (fun hc65 => ?_) (fun hc65 => ?_)
  · refine xn_iconst (q := 80) 1 dX9_read_79 rfl (by decide) ?_
    refine x_goto 84 dX9_read_80 (by decide) ?_
    exact bad M (by unfold rdBad; rw [bI_ne.mp hc65]; rfl) hM
  · refine x_aload_n (q := 69) dX9_read_68 rfl rfl ?_
    refine m_get (q := 72) hM 29 fwX9_258 (by decide) dX9_read_69 rfl rfl ?_
    rw [h29]
    refine x_aload_n (q := 73) dX9_read_72 rfl rfl ?_
    refine m_get (q := 76) hM 2 fwX9_255 (by decide) dX9_read_73 rfl rfl ?_
    rw [t1.2.1]
    refine xn_icmp_ge (q := 79) 83 dX9_read_76 (by decide) rfl (by omega) (by omega) (fun hc76 => ?_) (fun hc76 => ?_)
    · refine xn_iconst (q := 84) 0 dX9_read_83 rfl (by decide) ?_
      exact good M (by unfold rdBad; rw [bI_eq.mp hc65, decide_eq_false (by omega)]; rfl) hM
    · refine xn_iconst (q := 80) 1 dX9_read_79 rfl (by decide) ?_
      refine x_goto 84 dX9_read_80 (by decide) ?_
      exact bad M (by unfold rdBad; rw [bI_eq.mp hc65, decide_eq_true (by omega)]; rfl) hM
end XR4
