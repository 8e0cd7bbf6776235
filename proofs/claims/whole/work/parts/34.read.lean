section XR2
/-- the sign that is seen -/
def sn (t : List Nat) (f : Nat) : Nat := if f < t.length then t.getD f 0 else 0
def isND (c : Nat) : Bool := decide (c = 46 ∨ c = 83 ∨ c = 84 ∨ c = 70)
def rdN (t : List Nat) (f : Nat) (w : Bool) : Nat × Bool := if w = false ∧ isND (sn t f) = true then (f + 1, false) else (f, true)
def rdH (t : List Nat) (f : Nat) (w : Bool) : Nat × Bool := if w = false ∧ sn t f = 104 then (f + 1, true) else (f, false)
def rdX (t : List Nat) (f : Nat) (w : Bool) : Nat × Bool := if w = false ∧ sn t f = 120 then (f + 1, false) else (f, true)
def rdU (t : List Nat) (f : Nat) (w : Bool) : Nat × Nat × Bool :=
  if w = false ∧ 49 ≤ sn t f ∧ sn t f ≤ 57 then
    if 48 ≤ sn t (f + 1) ∧ sn t (f + 1) ≤ 57 then
      if 12 < 10 * (sn t f - 48) + (sn t (f + 1) - 48) then (10 * (sn t f - 48) + (sn t (f + 1) - 48), f, true)
      else (10 * (sn t f - 48) + (sn t (f + 1) - 48), f + 2, false)
    else (sn t f - 48, f + 1, false)
  else (0, f, true)
/-- a beam and the node behind it: length, stiffness, hinges, the node's sign, where it stands, whether it is wrong -/
def rdB (t : List Nat) (f : Nat) (w : Bool) : Nat × Nat × Bool × Bool × Nat × Nat × Bool :=
  let a := rdH t f w
  let b := rdU t a.1 w
  let x := rdX t b.2.1 b.2.2
  let e := rdU t x.1 x.2
  let h := rdH t e.2.1 e.2.2
  let k := rdN t h.1 e.2.2
  (b.1, e.1, a.2, h.2, sn t h.1, k.1, k.2)
theorem sn_le {t : List Nat} (ht : ∀ i, i < t.length → 32 ≤ t.getD i 0 ∧ t.getD i 0 ≤ 126) (f : Nat) : sn t f ≤ 126 := by
  unfold sn; split
  · rename_i h; exact (ht f h).2
  · omega
theorem sn_lt {t : List Nat} {f : Nat} (h : 0 < sn t f) : f < t.length := by
  unfold sn at h
  split at h
  · assumption
  · omega
def Rd (σ : mS) (t : List Nat) (f : Nat) (w : Bool) : Prop := Txt σ t ∧ σ.1 29 = nI f ∧ σ.1 30 = bI w ∧ f ≤ t.length
theorem Rd.on {F A B : List Nat} {σ σ' : mS} {t : List Nat} {f : Nat} {w : Bool} (h : Rd σ t f w) (ho : onl F A B σ σ') (h2 : 2 ∉ F) (h29 : 29 ∉ F) (h30 : 30 ∉ F) (h1 : 1 ∉ A) : Rd σ' t f w := ⟨h.1.on ho h2 h1, (ho.1 29 h29).trans h.2.1, (ho.1 30 h30).trans h.2.2.1, h.2.2.2⟩
theorem bI_n : ∀ b : Bool, narrow .boolean (.int (bI b)) = .int (bI b) := by decide
theorem bI_v : ∀ b : Bool, vp_nar .boolean (bI b) = bI b := by decide
theorem bI_f : ∀ b : Bool, fits .boolean (.int (bI b)) = true := by decide
set_option maxRecDepth 100000 in
set_option maxHeartbeats 4000000 in
theorem c_seen (G : xG) (l : Launch) (o : Nat) (as : Nat → Nat) (M0 : xM) (N S : Nat) (d : Nat) (σ : mS) (t : List Nat) (f : Nat) (w : Bool) (hR : Rd σ t f w) : mC G l o as M0 N S YX9_seen d [] σ (fun x σ' => x = some (.int (nI (sn t f))) ∧ σ' = σ) := by
  obtain ⟨ht, h29, h30, hf⟩ := hR
  have h50 := ht.1
  refine mC.of (ls := [(0, .ref o)]) (by decide) (Nat.le_of_ble_eq_true rfl) rfl fun M hM => ?_
  refine x_aload_n (q := 1) dX9_seen_0 rfl rfl ?_
  refine m_get (q := 4) hM 29 fwX9_258 (by decide) dX9_seen_1 rfl rfl ?_
  rw [h29]
  refine x_aload_n (q := 5) dX9_seen_4 rfl rfl ?_
  refine m_get (q := 8) hM 2 fwX9_255 (by decide) dX9_seen_5 rfl rfl ?_
  rw [ht.2.1]
  refine xn_icmp_ge (q := 11) 23 dX9_seen_8 (by decide) rfl (by omega) (by omega) (fun hc8 => ?_) (fun hc8 => ?_)
  · refine xn_iconst (q := 24) 0 dX9_seen_23 rfl (by decide) ?_
    exact x_iret rfl dX9_seen_24 (m_ret hM ⟨by unfold sn; rw [if_neg (by omega)], rfl⟩)
  · refine x_aload_n (q := 12) dX9_seen_11 rfl rfl ?_
    refine m_get (q := 15) hM 1 fwX9_7 (by decide) dX9_seen_12 rfl rfl ?_
    refine x_aload_n (q := 16) dX9_seen_15 rfl rfl ?_
    refine m_get (q := 19) hM 29 fwX9_258 (by decide) dX9_seen_16 rfl rfl ?_
    rw [h29]
    refine m_iald (q := 20) hM (n := 50) (by decide) dX9_seen_19 rfl (by omega) ?_
    rw [ht.2.2.1 f hc8]
    refine x_goto 24 dX9_seen_20 (by decide) ?_
    exact x_iret rfl dX9_seen_24 (m_ret hM ⟨by unfold sn; rw [if_pos hc8], rfl⟩)
set_option maxRecDepth 100000 in
set_option maxHeartbeats 4000000 in
theorem c_isDigit (G : xG) (l : Launch) (d : Nat) (M : xM) (N S : Nat) (c : Nat) (hc : c ≤ 126) (Q : xPost) (hQ : Q (some (.int (bI (decide (48 ≤ c ∧ c ≤ 57))))) M N S) : xC G l YX9_isDigit d [.int (nI c)] M N S Q := by
  refine xC.of (ls := [(0, .int (nI c))]) (by decide) (Nat.le_of_ble_eq_true rfl) rfl ?_
  refine x_iload_n (q := 1) dX9_isDigit_0 rfl rfl ?_
  refine xn_bipush (q := 3) 48 dX9_isDigit_1 rfl (by decide) ?_
  refine xn_icmp_lt (q := 6) 16 dX9_isDigit_3 (by decide) rfl (by omega) (by omega) (fun hc3 => ?_) (fun hc3 => ?_)
  · refine xn_iconst (q := 17) 0 dX9_isDigit_16 rfl (by decide) ?_
    exact x_zret rfl (by decide) dX9_isDigit_17 (by rw [decide_eq_false (by omega)] at hQ; exact hQ)
  · refine x_iload_n (q := 7) dX9_isDigit_6 rfl rfl ?_
    refine xn_bipush (q := 9) 57 dX9_isDigit_7 rfl (by decide) ?_
    refine xn_icmp_gt (q := 12) 16 dX9_isDigit_9 (by decide) rfl (by omega) (by omega) (fun hc9 => ?_) (fun hc9 => ?_)
    · refine xn_iconst (q := 17) 0 dX9_isDigit_16 rfl (by decide) ?_
      exact x_zret rfl (by decide) dX9_isDigit_17 (by rw [decide_eq_false (by omega)] at hQ; exact hQ)
    · refine xn_iconst (q := 13) 1 dX9_isDigit_12 rfl (by decide) ?_
      refine x_goto 17 dX9_isDigit_13 (by decide) ?_
      exact x_zret rfl (by decide) dX9_isDigit_17 (by rw [decide_eq_true (by omega)] at hQ; exact hQ)
set_option maxRecDepth 100000 in
set_option maxHeartbeats 4000000 in
theorem c_readNode (G : xG) (l : Launch) (o : Nat) (as : Nat → Nat) (M0 : xM) (N S : Nat) (d : Nat) (σ : mS) (t : List Nat) (f : Nat) (w : Bool) (hR : Rd σ t f w) (k : Nat) (hk : k < 4) : mC G l o as M0 N S YX9_readNode (d + 1) [.int (nI k)] σ (fun x σ' => x = none ∧ onl [29, 30] [31] [] σ σ' ∧ Rd σ' t (rdN t f w).1 (rdN t f w).2 ∧ (∀ i, i ≠ k → σ'.2.1 31 i = σ.2.1 31 i) ∧ ((rdN t f w).2 = false → σ'.2.1 31 k = nI (sn t f))) := by
  obtain ⟨ht, h29, h30, hf⟩ := id hR
  have h50 := ht.1
  have hs := sn_le ht.2.2.2 f
  have hsl : 0 < sn t f → f < t.length := sn_lt
  refine mC.of (ls := [(0, .ref o), (1, .int (nI k))]) (by decide) (Nat.le_of_ble_eq_true rfl) rfl fun M hM => ?_
  have main : ∀ (w' : Bool) (M : xM), w' = (rdN t f w).2 → mAt o as σ M0 M → xX G l YX9_readNode (d + 1) (mQ o as M0 N S (fun x σ' => x = none ∧ onl [29, 30] [31] [] σ σ' ∧ Rd σ' t (rdN t f w).1 (rdN t f w).2 ∧ (∀ i, i ≠ k → σ'.2.1 31 i = σ.2.1 31 i) ∧ ((rdN t f w).2 = false → σ'.2.1 31 k = nI (sn t f)))) 42 [(0, .ref o), (1, .int (nI k)), (2, .int (nI (sn t f)))] [.int (bI w'), .ref o] M N S := by
    intro w' M hw hM
    refine m_putG (q := 45) hM 30 fwX9_264 (by decide) rfl rfl rfl dX9_readNode_42 rfl (bI_n _) (bI_f _) (fun M σ42 a42 e42 b42 hM => ?_)
    refine x_aload_n (q := 46) dX9_readNode_45 rfl rfl ?_
    refine m_get (q := 49) hM 30 fwX9_264 (by decide) dX9_readNode_46 rfl rfl ?_
    rw [e42]
    refine x_if_ne (q := 52) 69 dX9_readNode_49 (by decide) rfl (fun hc49 => ?_) (fun hc49 => ?_)
    · have e0 : rdN t f w = (f, true) := by
        rw [bI_ne.mp hc49] at hw; unfold rdN at *; split at hw
        · exact absurd hw (by simp)
        · rename_i h; exact if_neg h
      refine x_vret rfl dX9_readNode_69 (m_ret hM ⟨rfl, (onl.fld a42 b42).mono (by simp) (by simp) (by simp), ⟨ht.on (onl.fld a42 b42) (by decide) (by decide), ?_, ?_, ?_⟩, fun i _ => by rw [b42], fun h => by rw [e0] at h; exact absurd h (by simp)⟩)
      · rw [e0, a42 29 (by decide)]; exact h29
      · rw [e42, hw]
      · rw [e0]; exact hf
    · refine x_aload_n (q := 53) dX9_readNode_52 rfl rfl ?_
      refine m_get (q := 56) hM 31 fwX9_72 (by decide) dX9_readNode_53 rfl rfl ?_
      refine x_iload_n (q := 57) dX9_readNode_56 rfl rfl ?_
      refine x_iload_n (q := 58) dX9_readNode_57 rfl rfl ?_
      refine m_iastG (q := 59) hM (n := 4) (by decide) dX9_readNode_58 rfl (by omega) (fun M σ58 a58 b58 c58 e58 f58 hM => ?_)
      refine x_aload_n (q := 60) dX9_readNode_59 rfl rfl ?_
      refine x_dup (q := 61) dX9_readNode_60 rfl rfl ?_
      refine m_get (q := 64) hM 29 fwX9_258 (by decide) dX9_readNode_61 rfl rfl ?_
      rw [show σ58.1 29 = nI f by rw [a58, a42 29 (by decide)]; exact h29]
      refine xn_iconst (q := 65) 1 dX9_readNode_64 rfl (by decide) ?_
      refine xn_iadd (q := 66) dX9_readNode_65 rfl ?_
      refine m_putG (q := 69) hM 29 fwX9_258 (by decide) rfl rfl rfl dX9_readNode_66 rfl rfl rfl (fun M σ66 a66 e66 b66 hM => ?_)
      have e1 : w = false ∧ isND (sn t f) = true := by
        rw [bI_eq.mp hc49] at hw; unfold rdN at hw; split at hw
        · assumption
        · exact absurd hw (by simp)
      have e0 : rdN t f w = (f + 1, false) := if_pos e1
      have oo : onl [29, 30] [31] [] σ σ66 := ((onl.fld a42 b42).mono (by simp) (by simp) (by simp)).trans (((onl.arr a58 b58 c58).mono (by simp) (by simp) (by simp)).trans ((onl.fld a66 b66).mono (by simp) (by simp) (by simp)))
      have hp : 0 < sn t f := by have := e1.2; unfold isND at this; have := of_decide_eq_true this; omega
      refine x_vret rfl dX9_readNode_69 (m_ret hM ⟨rfl, oo, ⟨ht.on oo (by decide) (by decide), ?_, ?_, ?_⟩, fun i hi => ?_, fun h => ?_⟩)
      · rw [e0, e66]
      · rw [e0, a66 30 (by decide), a58, e42, hw, e0]
      · rw [e0]; exact hsl hp
      · rw [show σ66.2.1 31 i = σ58.2.1 31 i by rw [b66], f58 i hi, b42]
      · rw [show σ66.2.1 31 k = σ58.2.1 31 k by rw [b66]]; exact e58
  refine x_aload_n (q := 1) dX9_readNode_0 rfl rfl ?_
  refine m_call (q := 4) (As := []) hM imX9_seen ivX9_seen ilX9_seen mwX9_261 xciX9 dX9_readNode_1 rfl rfl rfl (Nat.le_of_ble_eq_true rfl) ?_
  refine (c_seen G l o as M0 N S _ σ t f w hR).mono (fun x σ9 hp => ?_)
  obtain ⟨rfl, e9⟩ := hp
  intro M hM
  rw [e9] at hM; clear e9 σ9
  show xX G l _ (d + 1) _ _ _ _ M N S
  refine x_istore_n (q := 5) (ls' := [(0, _), (1, _), (2, _)]) [1, 2, 0] dX9_readNode_4 rfl (by decide) rfl ?_
  refine x_aload_n (q := 6) dX9_readNode_5 rfl rfl ?_
  refine x_aload_n (q := 7) dX9_readNode_6 rfl rfl ?_
  refine m_get (q := 10) hM 30 fwX9_264 (by decide) dX9_readNode_7 rfl rfl ?_
  rw [h30]
  refine x_if_ne (q := 13) 37 dX9_readNode_10 (by decide) rfl (fun hc10 => ?_) (fun hc10 => ?_)
  · refine xn_iconst (q := 38) 1 dX9_readNode_37 rfl (by decide) ?_
    refine x_goto 42 dX9_readNode_38 (by decide) ?_
    exact main true M (by unfold rdN; rw [if_neg (fun h => by rw [h.1] at hc10; exact hc10 rfl)]) hM
  · refine x_iload_n (q := 14) dX9_readNode_13 rfl rfl ?_
    refine xn_bipush (q := 16) 46 dX9_readNode_14 rfl (by decide) ?_
    refine xn_icmp_eq (q := 19) 41 dX9_readNode_16 (by decide) rfl (by omega) (by omega) (fun hc16 => ?_) (fun hc16 => ?_)
    · refine xn_iconst (q := 42) 0 dX9_readNode_41 rfl (by decide) ?_
      exact main false M (by unfold rdN; rw [if_pos ⟨bI_eq.mp hc10, by unfold isND; exact decide_eq_true (by omega)⟩]) hM
    · refine x_iload_n (q := 20) dX9_readNode_19 rfl rfl ?_
      refine xn_bipush (q := 22) 83 dX9_readNode_20 rfl (by decide) ?_
      refine xn_icmp_eq (q := 25) 41 dX9_readNode_22 (by decide) rfl (by omega) (by omega) (fun hc22 => ?_) (fun hc22 => ?_)
      · refine xn_iconst (q := 42) 0 dX9_readNode_41 rfl (by decide) ?_
        exact main false M (by unfold rdN; rw [if_pos ⟨bI_eq.mp hc10, by unfold isND; exact decide_eq_true (by omega)⟩]) hM
      · refine x_iload_n (q := 26) dX9_readNode_25 rfl rfl ?_
        refine xn_bipush (q := 28) 84 dX9_readNode_26 rfl (by decide) ?_
        refine xn_icmp_eq (q := 31) 41 dX9_readNode_28 (by decide) rfl (by omega) (by omega) (fun hc28 => ?_) (fun hc28 => ?_)
        · refine xn_iconst (q := 42) 0 dX9_readNode_41 rfl (by decide) ?_
          exact main false M (by unfold rdN; rw [if_pos ⟨bI_eq.mp hc10, by unfold isND; exact decide_eq_true (by omega)⟩]) hM
        · refine x_iload_n (q := 32) dX9_readNode_31 rfl rfl ?_
          refine xn_bipush (q := 34) 70 dX9_readNode_32 rfl (by decide) ?_
          refine xn_icmp_eq (q := 37) 41 dX9_readNode_34 (by decide) rfl (by omega) (by omega) (fun hc34 => ?_) (fun hc34 => ?_)
          · refine xn_iconst (q := 42) 0 dX9_readNode_41 rfl (by decide) ?_
            exact main false M (by unfold rdN; rw [if_pos ⟨bI_eq.mp hc10, by unfold isND; exact decide_eq_true (by omega)⟩]) hM
          · refine xn_iconst (q := 38) 1 dX9_readNode_37 rfl (by decide) ?_
            refine x_goto 42 dX9_readNode_38 (by decide) ?_
            exact main true M (by unfold rdN; rw [if_neg (fun h => by have := of_decide_eq_true h.2; omega)]) hM
set_option maxRecDepth 100000 in
set_option maxHeartbeats 4000000 in
theorem c_readHinge (G : xG) (l : Launch) (o : Nat) (as : Nat → Nat) (M0 : xM) (N S : Nat) (d : Nat) (σ : mS) (t : List Nat) (f : Nat) (w : Bool) (hR : Rd σ t f w) : mC G l o as M0 N S YX9_readHinge (d + 1) [] σ (fun x σ' => x = some (.int (bI (rdH t f w).2)) ∧ onl [29] [] [] σ σ' ∧ Rd σ' t (rdH t f w).1 w) := by
  obtain ⟨ht, h29, h30, hf⟩ := id hR
  have h50 := ht.1
  have hs := sn_le ht.2.2.2 f
  have hsl : 0 < sn t f → f < t.length := sn_lt
  refine mC.of (ls := [(0, .ref o)]) (by decide) (Nat.le_of_ble_eq_true rfl) rfl fun M hM => ?_
  refine x_aload_n (q := 1) dX9_readHinge_0 rfl rfl ?_
  refine m_get (q := 4) hM 30 fwX9_264 (by decide) dX9_readHinge_1 rfl rfl ?_
  rw [h30]
  refine x_if_ne (q := 7) 20 dX9_readHinge_4 (by decide) rfl (fun hc4 => ?_) (fun hc4 => ?_)
  · refine xn_iconst (q := 21) 0 dX9_readHinge_20 rfl (by decide) ?_
    refine x_istore_n (q := 22) (ls' := [(0, _), (1, _)]) [1, 0] dX9_readHinge_21 rfl (by decide) rfl ?_
    refine x_aload_n (q := 23) dX9_readHinge_22 rfl rfl ?_
    refine x_dup (q := 24) dX9_readHinge_23 rfl rfl ?_
    refine m_get (q := 27) hM 29 fwX9_258 (by decide) dX9_readHinge_24 rfl rfl ?_
    rw [h29]
    refine x_iload_n (q := 28) dX9_readHinge_27 rfl rfl ?_
    refine xn_if_eq (q := 31) 35 dX9_readHinge_28 (by decide) rfl (by omega) (fun hc28 => ?_) (fun hc28 => absurd hc28 (by decide))
    refine xn_iconst (q := 36) 0 dX9_readHinge_35 rfl (by decide) ?_
    refine xn_iadd (q := 37) dX9_readHinge_36 rfl ?_
    refine m_putG (q := 40) hM 29 fwX9_258 (by decide) rfl rfl rfl dX9_readHinge_37 rfl rfl rfl (fun M σ37 a37 e37 b37 hM => ?_)
    refine x_iload_n (q := 41) dX9_readHinge_40 rfl rfl ?_
    have e0 : rdH t f w = (f, false) := by unfold rdH; rw [if_neg (fun h => by rw [h.1] at hc4; exact hc4 rfl)]
    exact x_zret rfl (by decide) dX9_readHinge_41 (m_ret hM ⟨by rw [e0]; rfl, onl.fld a37 b37, ht.on (onl.fld a37 b37) (by decide) (by decide), by rw [e0]; exact e37, by rw [a37 30 (by decide)]; exact h30, by rw [e0]; dsimp only; omega⟩)
  · refine x_aload_n (q := 8) dX9_readHinge_7 rfl rfl ?_
    refine m_call (q := 11) (As := []) hM imX9_seen ivX9_seen ilX9_seen mwX9_261 xciX9 dX9_readHinge_8 rfl rfl rfl (Nat.le_of_ble_eq_true rfl) ?_
    refine (c_seen G l o as M0 N S _ σ t f w hR).mono (fun x σ9 hp => ?_)
    obtain ⟨rfl, e9⟩ := hp
    intro M hM
    rw [e9] at hM; clear e9 σ9
    show xX G l _ (d + 1) _ _ _ _ M N S
    refine xn_bipush (q := 13) 104 dX9_readHinge_11 rfl (by decide) ?_
    refine xn_icmp_ne (q := 16) 20 dX9_readHinge_13 (by decide) rfl (by omega) (by omega) (fun hc13 => ?_) (fun hc13 => ?_)
    · refine xn_iconst (q := 21) 0 dX9_readHinge_20 rfl (by decide) ?_
      refine x_istore_n (q := 22) (ls' := [(0, _), (1, _)]) [1, 0] dX9_readHinge_21 rfl (by decide) rfl ?_
      refine x_aload_n (q := 23) dX9_readHinge_22 rfl rfl ?_
      refine x_dup (q := 24) dX9_readHinge_23 rfl rfl ?_
      refine m_get (q := 27) hM 29 fwX9_258 (by decide) dX9_readHinge_24 rfl rfl ?_
      rw [h29]
      refine x_iload_n (q := 28) dX9_readHinge_27 rfl rfl ?_
      refine xn_if_eq (q := 31) 35 dX9_readHinge_28 (by decide) rfl (by omega) (fun hc28 => ?_) (fun hc28 => absurd hc28 (by decide))
      refine xn_iconst (q := 36) 0 dX9_readHinge_35 rfl (by decide) ?_
      refine xn_iadd (q := 37) dX9_readHinge_36 rfl ?_
      refine m_putG (q := 40) hM 29 fwX9_258 (by decide) rfl rfl rfl dX9_readHinge_37 rfl rfl rfl (fun M σ37 a37 e37 b37 hM => ?_)
      refine x_iload_n (q := 41) dX9_readHinge_40 rfl rfl ?_
      have e0 : rdH t f w = (f, false) := by unfold rdH; rw [if_neg (fun h => by omega)]
      exact x_zret rfl (by decide) dX9_readHinge_41 (m_ret hM ⟨by rw [e0]; rfl, onl.fld a37 b37, ht.on (onl.fld a37 b37) (by decide) (by decide), by rw [e0]; exact e37, by rw [a37 30 (by decide)]; exact h30, by rw [e0]; dsimp only; omega⟩)
    · refine xn_iconst (q := 17) 1 dX9_readHinge_16 rfl (by decide) ?_
      refine x_goto 21 dX9_readHinge_17 (by decide) ?_
      refine x_istore_n (q := 22) (ls' := [(0, _), (1, _)]) [1, 0] dX9_readHinge_21 rfl (by decide) rfl ?_
      refine x_aload_n (q := 23) dX9_readHinge_22 rfl rfl ?_
      refine x_dup (q := 24) dX9_readHinge_23 rfl rfl ?_
      refine m_get (q := 27) hM 29 fwX9_258 (by decide) dX9_readHinge_24 rfl rfl ?_
      rw [h29]
      refine x_iload_n (q := 28) dX9_readHinge_27 rfl rfl ?_
      refine xn_if_eq (q := 31) 35 dX9_readHinge_28 (by decide) rfl (by omega) (fun hc28 => absurd hc28 (by decide)) (fun hc28 => ?_)
      refine xn_iconst (q := 32) 1 dX9_readHinge_31 rfl (by decide) ?_
      refine x_goto 36 dX9_readHinge_32 (by decide) ?_
      refine xn_iadd (q := 37) dX9_readHinge_36 rfl ?_
      refine m_putG (q := 40) hM 29 fwX9_258 (by decide) rfl rfl rfl dX9_readHinge_37 rfl rfl rfl (fun M σ37 a37 e37 b37 hM => ?_)
      refine x_iload_n (q := 41) dX9_readHinge_40 rfl rfl ?_
      have e0 : rdH t f w = (f + 1, true) := by unfold rdH; rw [if_pos ⟨bI_eq.mp hc4, by omega⟩]
      exact x_zret rfl (by decide) dX9_readHinge_41 (m_ret hM ⟨by rw [e0]; rfl, onl.fld a37 b37, ht.on (onl.fld a37 b37) (by decide) (by decide), by rw [e0]; exact e37, by rw [a37 30 (by decide)]; exact h30, by rw [e0]; dsimp only; omega⟩)
set_option maxRecDepth 100000 in
set_option maxHeartbeats 4000000 in
theorem c_readNumber (G : xG) (l : Launch) (o : Nat) (as : Nat → Nat) (M0 : xM) (N S : Nat) (d : Nat) (σ : mS) (t : List Nat) (f : Nat) (w : Bool) (hR : Rd σ t f w) : mC G l o as M0 N S YX9_readNumber (d + 1) [] σ (fun x σ' => x = some (.int (nI (rdU t f w).1)) ∧ onl [29, 30] [] [] σ σ' ∧ Rd σ' t (rdU t f w).2.1 (rdU t f w).2.2) := by
  obtain ⟨ht, h29, h30, hf⟩ := id hR
  have h50 := ht.1
  have hs := sn_le ht.2.2.2
  refine mC.of (ls := [(0, .ref o)]) (by decide) (Nat.le_of_ble_eq_true rfl) rfl fun M hM => ?_
  have bad : ∀ (M : xM), ¬ (w = false ∧ 49 ≤ sn t f ∧ sn t f ≤ 57) → mAt o as σ M0 M → xX G l YX9_readNumber (d + 1) (mQ o as M0 N S (fun x σ' => x = some (.int (nI (rdU t f w).1)) ∧ onl [29, 30] [] [] σ σ' ∧ Rd σ' t (rdU t f w).2.1 (rdU t f w).2.2)) 37 [(0, .ref o), (1, .int (nI f))] [.int (bI true), .ref o] M N S := by
    intro M hw hM
    have e0 : rdU t f w = (0, f, true) := if_neg hw
    refine m_putG (q := 40) hM 30 fwX9_264 (by decide) rfl rfl rfl dX9_readNumber_37 rfl (bI_n _) (bI_f _) (fun M σ37 a37 e37 b37 hM => ?_)
    refine x_aload_n (q := 41) dX9_readNumber_40 rfl rfl ?_
    refine m_get (q := 44) hM 30 fwX9_264 (by decide) dX9_readNumber_41 rfl rfl ?_
    rw [e37]
    refine x_if_eq (q := 47) 49 dX9_readNumber_44 (by decide) rfl (fun hc44 => absurd hc44 (by decide)) (fun hc44 => ?_)
    refine xn_iconst (q := 48) 0 dX9_readNumber_47 rfl (by decide) ?_
    exact x_iret rfl dX9_readNumber_48 (m_ret hM ⟨by rw [e0], (onl.fld a37 b37).mono (by simp) (by simp) (by simp), ht.on (onl.fld a37 b37) (by decide) (by decide), by rw [e0, a37 29 (by decide)]; exact h29, by rw [e0, e37], by rw [e0]; exact hf⟩)
  have fin : ∀ (σ1 : mS) (v f1 : Nat) (M : xM), v < 100 → onl [29, 30] [] [] σ σ1 → Rd σ1 t f1 false → (if 12 < v then (v, f, true) else (v, f1, false)) = rdU t f w → mAt o as σ1 M0 M → xX G l YX9_readNumber (d + 1) (mQ o as M0 N S (fun x σ' => x = some (.int (nI (rdU t f w).1)) ∧ onl [29, 30] [] [] σ σ' ∧ Rd σ' t (rdU t f w).2.1 (rdU t f w).2.2)) 97 [(0, .ref o), (1, .int (nI f)), (2, .int (nI v))] [] M N S := by
    intro σ1 v f1 M hv o1 r1 hu hM
    refine x_iload_n (q := 98) dX9_readNumber_97 rfl rfl ?_
    refine xn_bipush (q := 100) 12 dX9_readNumber_98 rfl (by decide) ?_
    refine xn_icmp_le (q := 103) 113 dX9_readNumber_100 (by decide) rfl (by omega) (by omega) (fun hc100 => ?_) (fun hc100 => ?_)
    · refine x_iload_n (q := 114) dX9_readNumber_113 rfl rfl ?_
      rw [if_neg (by omega)] at hu
      exact x_iret rfl dX9_readNumber_114 (m_ret hM ⟨by rw [← hu], o1, by rw [← hu]; exact r1⟩)
    · refine x_aload_n (q := 104) dX9_readNumber_103 rfl rfl ?_
      refine xn_iconst (q := 105) 1 dX9_readNumber_104 rfl (by decide) ?_
      refine m_putG (q := 108) hM 30 fwX9_264 (by decide) rfl rfl rfl dX9_readNumber_105 rfl rfl rfl (fun M σ105 a105 e105 b105 hM => ?_)
      refine x_aload_n (q := 109) dX9_readNumber_108 rfl rfl ?_
      refine x_iload_n (q := 110) dX9_readNumber_109 rfl rfl ?_
      refine m_putG (q := 113) hM 29 fwX9_258 (by decide) rfl rfl rfl dX9_readNumber_110 rfl rfl rfl (fun M σ110 a110 e110 b110 hM => ?_)
      refine x_iload_n (q := 114) dX9_readNumber_113 rfl rfl ?_
      rw [if_pos hc100] at hu
      have oo : onl [29, 30] [] [] σ1 σ110 := ((onl.fld a105 b105).mono (by simp) (by simp) (by simp)).trans ((onl.fld a110 b110).mono (by simp) (by simp) (by simp))
      exact x_iret rfl dX9_readNumber_114 (m_ret hM ⟨by rw [← hu], o1.trans oo, by rw [← hu]; exact ⟨r1.1.on oo (by decide) (by decide), e110, by rw [a110 30 (by decide)]; exact e105, hf⟩⟩)
  have good : ∀ (M : xM), (w = false ∧ 49 ≤ sn t f ∧ sn t f ≤ 57) → mAt o as σ M0 M → xX G l YX9_readNumber (d + 1) (mQ o as M0 N S (fun x σ' => x = some (.int (nI (rdU t f w).1)) ∧ onl [29, 30] [] [] σ σ' ∧ Rd σ' t (rdU t f w).2.1 (rdU t f w).2.2)) 37 [(0, .ref o), (1, .int (nI f))] [.int (bI false), .ref o] M N S := by
    intro M hw hM
    have hfl : f < t.length := sn_lt (by omega)
    have hu : rdU t f w = (if 48 ≤ sn t (f + 1) ∧ sn t (f + 1) ≤ 57 then if 12 < 10 * (sn t f - 48) + (sn t (f + 1) - 48) then (10 * (sn t f - 48) + (sn t (f + 1) - 48), f, true) else (10 * (sn t f - 48) + (sn t (f + 1) - 48), f + 2, false) else (sn t f - 48, f + 1, false)) := if_pos hw
    have hs0 := hs f
    have hs1 := hs (f + 1)
    have hs2 := hs (f + 2)
    refine m_putG (q := 40) hM 30 fwX9_264 (by decide) rfl rfl rfl dX9_readNumber_37 rfl (bI_n _) (bI_f _) (fun M σ37 a37 e37 b37 hM => ?_)
    refine x_aload_n (q := 41) dX9_readNumber_40 rfl rfl ?_
    refine m_get (q := 44) hM 30 fwX9_264 (by decide) dX9_readNumber_41 rfl rfl ?_
    rw [e37]
    refine x_if_eq (q := 47) 49 dX9_readNumber_44 (by decide) rfl (fun hc44 => ?_) (fun hc44 => absurd rfl hc44)
    refine xn_iconst (q := 50) 0 dX9_readNumber_49 rfl (by decide) ?_
    refine x_istore_n (q := 51) (ls' := [(0, _), (1, _), (2, _)]) [1, 2, 0] dX9_readNumber_50 rfl (by decide) rfl ?_
    have r37 : Rd σ37 t f false := ⟨ht.on (onl.fld a37 b37) (by decide) (by decide), by rw [a37 29 (by decide)]; exact h29, e37, hf⟩
    have o37 : onl [29, 30] [] [] σ σ37 := (onl.fld a37 b37).mono (by simp) (by simp) (by simp)
    refine x_aload_n (q := 52) dX9_readNumber_51 rfl rfl ?_
    refine m_call (q := 55) (As := []) hM imX9_seen ivX9_seen ilX9_seen mwX9_261 xciX9 dX9_readNumber_52 rfl rfl rfl (Nat.le_of_ble_eq_true rfl) ?_
    refine (c_seen G l o as M0 N S _ σ37 t f false r37).mono (fun x σ9 hp => ?_)
    obtain ⟨rfl, e9⟩ := hp
    intro M hM
    rw [e9] at hM; clear e9 σ9
    show xX G l _ (d + 1) _ _ _ _ M N S
    refine x_callS (q := 58) (As := [_]) imX9_isDigit isX9_isDigit mwX9_267 dX9_readNumber_55 rfl rfl rfl (Nat.le_of_ble_eq_true rfl) ?_
    refine c_isDigit G l _ M N S _ hs0 _ ?_
    show xX G l _ (d + 1) _ _ _ _ M N S
    refine x_if_eq (q := 61) 97 dX9_readNumber_58 (by decide) rfl (fun hc58 => absurd (of_decide_eq_false (bI_eq.mp hc58)) (by omega)) (fun hc58 => ?_)
    refine x_aload_n (q := 62) dX9_readNumber_61 rfl rfl ?_
    refine m_get (q := 65) hM 29 fwX9_258 (by decide) dX9_readNumber_62 rfl rfl ?_
    rw [r37.2.1]
    refine x_iload_n (q := 66) dX9_readNumber_65 rfl rfl ?_
    refine xn_iconst (q := 67) 2 dX9_readNumber_66 rfl (by decide) ?_
    refine xn_iadd (q := 68) dX9_readNumber_67 rfl ?_
    refine xn_icmp_ge (q := 71) 97 dX9_readNumber_68 (by decide) rfl (by omega) (by omega) (fun hc68 => absurd hc68 (by omega)) (fun hc68 => ?_)
    refine xn_bipush (q := 73) 10 dX9_readNumber_71 rfl (by decide) ?_
    refine x_iload_n (q := 74) dX9_readNumber_73 rfl rfl ?_
    refine xn_imul (q := 75) dX9_readNumber_74 rfl ?_
    refine x_topi (y := nI 0) rfl ?_
    refine x_aload_n (q := 76) dX9_readNumber_75 rfl rfl ?_
    refine m_call (q := 79) (As := []) hM imX9_seen ivX9_seen ilX9_seen mwX9_261 xciX9 dX9_readNumber_76 rfl rfl rfl (Nat.le_of_ble_eq_true rfl) ?_
    refine (c_seen G l o as M0 N S _ σ37 t f false r37).mono (fun x σ9 hp => ?_)
    obtain ⟨rfl, e9⟩ := hp
    intro M hM
    rw [e9] at hM; clear e9 σ9
    show xX G l _ (d + 1) _ _ _ _ M N S
    refine xn_iadd (q := 80) dX9_readNumber_79 rfl ?_
    refine xn_bipush (q := 82) 48 dX9_readNumber_80 rfl (by decide) ?_
    refine xn_isub (q := 83) dX9_readNumber_82 rfl (by omega) ?_
    refine x_istore_n (q := 84) (ls' := [(0, _), (1, _), (2, _)]) [1, 2, 0] dX9_readNumber_83 rfl (by decide) rfl ?_
    refine x_aload_n (q := 85) dX9_readNumber_84 rfl rfl ?_
    refine x_dup (q := 86) dX9_readNumber_85 rfl rfl ?_
    refine m_get (q := 89) hM 29 fwX9_258 (by decide) dX9_readNumber_86 rfl rfl ?_
    rw [r37.2.1]
    refine xn_iconst (q := 90) 1 dX9_readNumber_89 rfl (by decide) ?_
    refine xn_iadd (q := 91) dX9_readNumber_90 rfl ?_
    refine m_putG (q := 94) hM 29 fwX9_258 (by decide) rfl rfl rfl dX9_readNumber_91 rfl rfl rfl (fun M σ91 a91 e91 b91 hM => ?_)
    refine x_goto 51 dX9_readNumber_94 (by decide) ?_
    have r91 : Rd σ91 t (f + 1) false := ⟨r37.1.on (onl.fld a91 b91) (by decide) (by decide), e91, by rw [a91 30 (by decide)]; exact r37.2.2.1, hfl⟩
    have o91 : onl [29, 30] [] [] σ σ91 := o37.trans ((onl.fld a91 b91).mono (by simp) (by simp) (by simp))
    refine x_aload_n (q := 52) dX9_readNumber_51 rfl rfl ?_
    refine m_call (q := 55) (As := []) hM imX9_seen ivX9_seen ilX9_seen mwX9_261 xciX9 dX9_readNumber_52 rfl rfl rfl (Nat.le_of_ble_eq_true rfl) ?_
    refine (c_seen G l o as M0 N S _ σ91 t (f + 1) false r91).mono (fun x σ9 hp => ?_)
    obtain ⟨rfl, e9⟩ := hp
    intro M hM
    rw [e9] at hM; clear e9 σ9
    show xX G l _ (d + 1) _ _ _ _ M N S
    refine x_callS (q := 58) (As := [_]) imX9_isDigit isX9_isDigit mwX9_267 dX9_readNumber_55 rfl rfl rfl (Nat.le_of_ble_eq_true rfl) ?_
    refine c_isDigit G l _ M N S _ hs1 _ ?_
    show xX G l _ (d + 1) _ _ _ _ M N S
    refine x_if_eq (q := 61) 97 dX9_readNumber_58 (by decide) rfl (fun hc58b => ?_) (fun hc58b => ?_)
    · refine fin σ91 _ (f + 1) M (by omega) o91 r91 (by rw [hu, if_neg (by omega), if_neg (fun h => by have := of_decide_eq_false (bI_eq.mp hc58b); omega)]; exact congrArg (fun v => (v, f + 1, false)) (by omega)) hM
    · refine x_aload_n (q := 62) dX9_readNumber_61 rfl rfl ?_
      refine m_get (q := 65) hM 29 fwX9_258 (by decide) dX9_readNumber_62 rfl rfl ?_
      rw [r91.2.1]
      refine x_iload_n (q := 66) dX9_readNumber_65 rfl rfl ?_
      refine xn_iconst (q := 67) 2 dX9_readNumber_66 rfl (by decide) ?_
      refine xn_iadd (q := 68) dX9_readNumber_67 rfl ?_
      refine xn_icmp_ge (q := 71) 97 dX9_readNumber_68 (by decide) rfl (by omega) (by omega) (fun hc68b => absurd hc68b (by omega)) (fun hc68b => ?_)
      refine xn_bipush (q := 73) 10 dX9_readNumber_71 rfl (by decide) ?_
      refine x_iload_n (q := 74) dX9_readNumber_73 rfl rfl ?_
      refine xn_imul (q := 75) dX9_readNumber_74 rfl ?_
      refine x_aload_n (q := 76) dX9_readNumber_75 rfl rfl ?_
      refine m_call (q := 79) (As := []) hM imX9_seen ivX9_seen ilX9_seen mwX9_261 xciX9 dX9_readNumber_76 rfl rfl rfl (Nat.le_of_ble_eq_true rfl) ?_
      refine (c_seen G l o as M0 N S _ σ91 t (f + 1) false r91).mono (fun x σ9 hp => ?_)
      obtain ⟨rfl, e9⟩ := hp
      intro M hM
      rw [e9] at hM; clear e9 σ9
      show xX G l _ (d + 1) _ _ _ _ M N S
      refine xn_iadd (q := 80) dX9_readNumber_79 rfl ?_
      refine xn_bipush (q := 82) 48 dX9_readNumber_80 rfl (by decide) ?_
      refine xn_isub (q := 83) dX9_readNumber_82 rfl (by have := of_decide_eq_true (bI_ne.mp hc58b); omega) ?_
      refine x_istore_n (q := 84) (ls' := [(0, _), (1, _), (2, _)]) [1, 2, 0] dX9_readNumber_83 rfl (by decide) rfl ?_
      refine x_aload_n (q := 85) dX9_readNumber_84 rfl rfl ?_
      refine x_dup (q := 86) dX9_readNumber_85 rfl rfl ?_
      refine m_get (q := 89) hM 29 fwX9_258 (by decide) dX9_readNumber_86 rfl rfl ?_
      rw [r91.2.1]
      refine xn_iconst (q := 90) 1 dX9_readNumber_89 rfl (by decide) ?_
      refine xn_iadd (q := 91) dX9_readNumber_90 rfl ?_
      refine m_putG (q := 94) hM 29 fwX9_258 (by decide) rfl rfl rfl dX9_readNumber_91 rfl rfl rfl (fun M σ91b a91b e91b b91b hM => ?_)
      refine x_goto 51 dX9_readNumber_94 (by decide) ?_
      have hfl2 : f + 1 < t.length := sn_lt (by have := of_decide_eq_true (bI_ne.mp hc58b); omega)
      have r91b : Rd σ91b t (f + 2) false := ⟨r91.1.on (onl.fld a91b b91b) (by decide) (by decide), e91b, by rw [a91b 30 (by decide)]; exact r91.2.2.1, by omega⟩
      have o91b : onl [29, 30] [] [] σ σ91b := o91.trans ((onl.fld a91b b91b).mono (by simp) (by simp) (by simp))
      have hdg := of_decide_eq_true (bI_ne.mp hc58b)
      have hfin : ∀ M, mAt o as σ91b M0 M → xX G l YX9_readNumber (d + 1) (mQ o as M0 N S (fun x σ' => x = some (.int (nI (rdU t f w).1)) ∧ onl [29, 30] [] [] σ σ' ∧ Rd σ' t (rdU t f w).2.1 (rdU t f w).2.2)) 97 [(0, .ref o), (1, .int (nI f)), (2, .int (nI (10 * (10 * 0 + sn t f - 48) + sn t (f + 1) - 48)))] [] M N S := fun M hM => fin σ91b _ (f + 2) M (by omega) o91b r91b (by rw [hu, if_pos hdg, show 10 * (10 * 0 + sn t f - 48) + sn t (f + 1) - 48 = 10 * (sn t f - 48) + (sn t (f + 1) - 48) by omega]) hM
      refine x_aload_n (q := 52) dX9_readNumber_51 rfl rfl ?_
      refine m_call (q := 55) (As := []) hM imX9_seen ivX9_seen ilX9_seen mwX9_261 xciX9 dX9_readNumber_52 rfl rfl rfl (Nat.le_of_ble_eq_true rfl) ?_
      refine (c_seen G l o as M0 N S _ σ91b t (f + 2) false r91b).mono (fun x σ9 hp => ?_)
      obtain ⟨rfl, e9⟩ := hp
      intro M hM
      rw [e9] at hM; clear e9 σ9
      show xX G l _ (d + 1) _ _ _ _ M N S
      refine x_callS (q := 58) (As := [_]) imX9_isDigit isX9_isDigit mwX9_267 dX9_readNumber_55 rfl rfl rfl (Nat.le_of_ble_eq_true rfl) ?_
      refine c_isDigit G l _ M N S _ hs2 _ ?_
      show xX G l _ (d + 1) _ _ _ _ M N S
      refine x_if_eq (q := 61) 97 dX9_readNumber_58 (by decide) rfl (fun hc58 => ?_) (fun hc58 => ?_)
      · exact hfin M hM
      · refine x_aload_n (q := 62) dX9_readNumber_61 rfl rfl ?_
        refine m_get (q := 65) hM 29 fwX9_258 (by decide) dX9_readNumber_62 rfl rfl ?_
        rw [r91b.2.1]
        refine x_iload_n (q := 66) dX9_readNumber_65 rfl rfl ?_
        refine xn_iconst (q := 67) 2 dX9_readNumber_66 rfl (by decide) ?_
        refine xn_iadd (q := 68) dX9_readNumber_67 rfl ?_
        refine xn_icmp_ge (q := 71) 97 dX9_readNumber_68 (by decide) rfl (by omega) (by omega) (fun hc68 => ?_) (fun hc68 => absurd hc68 (by omega))
        exact hfin M hM
  refine x_aload_n (q := 1) dX9_readNumber_0 rfl rfl ?_
  refine m_get (q := 4) hM 29 fwX9_258 (by decide) dX9_readNumber_1 rfl rfl ?_
  rw [h29]
  refine x_istore_n (q := 5) (ls' := [(0, _), (1, _)]) [1, 0] dX9_readNumber_4 rfl (by decide) rfl ?_
  refine x_aload_n (q := 6) dX9_readNumber_5 rfl rfl ?_
  refine x_aload_n (q := 7) dX9_readNumber_6 rfl rfl ?_
  refine m_get (q := 10) hM 30 fwX9_264 (by decide) dX9_readNumber_7 rfl rfl ?_
  rw [h30]
  refine x_if_ne (q := 13) 32 dX9_readNumber_10 (by decide) rfl (fun hc10 => ?_) (fun hc10 => ?_)
  · refine xn_iconst (q := 33) 1 dX9_readNumber_32 rfl (by decide) ?_
    refine x_goto 37 dX9_readNumber_33 (by decide) ?_
    exact bad M (fun h => by rw [h.1] at hc10; exact hc10 rfl) hM
  · refine x_aload_n (q := 14) dX9_readNumber_13 rfl rfl ?_
    refine m_call (q := 17) (As := []) hM imX9_seen ivX9_seen ilX9_seen mwX9_261 xciX9 dX9_readNumber_14 rfl rfl rfl (Nat.le_of_ble_eq_true rfl) ?_
    refine (c_seen G l o as M0 N S _ σ t f w hR).mono (fun x σ9 hp => ?_)
    obtain ⟨rfl, e9⟩ := hp
    intro M hM
    rw [e9] at hM; clear e9 σ9
    show xX G l _ (d + 1) _ _ _ _ M N S
    refine x_callS (q := 20) (As := [_]) imX9_isDigit isX9_isDigit mwX9_267 dX9_readNumber_17 rfl rfl rfl (Nat.le_of_ble_eq_true rfl) ?_
    refine c_isDigit G l _ M N S _ (hs f) _ ?_
    show xX G l _ (d + 1) _ _ _ _ M N S
    refine x_if_eq (q := 23) 32 dX9_readNumber_20 (by decide) rfl (fun hc20 => ?_) (fun hc20 => ?_)
    · refine xn_iconst (q := 33) 1 dX9_readNumber_32 rfl (by decide) ?_
      refine x_goto 37 dX9_readNumber_33 (by decide) ?_
      exact bad M (fun h => by have := of_decide_eq_false (bI_eq.mp hc20); omega) hM
    · refine x_aload_n (q := 24) dX9_readNumber_23 rfl rfl ?_
      refine m_call (q := 27) (As := []) hM imX9_seen ivX9_seen ilX9_seen mwX9_261 xciX9 dX9_readNumber_24 rfl rfl rfl (Nat.le_of_ble_eq_true rfl) ?_
      refine (c_seen G l o as M0 N S _ σ t f w hR).mono (fun x σ9 hp => ?_)
      obtain ⟨rfl, e9⟩ := hp
      intro M hM
      rw [e9] at hM; clear e9 σ9
      show xX G l _ (d + 1) _ _ _ _ M N S
      have hs0 := hs f
      refine xn_bipush (q := 29) 48 dX9_readNumber_27 rfl (by decide) ?_
      refine xn_icmp_ne (q := 32) 36 dX9_readNumber_29 (by decide) rfl (by omega) (by omega) (fun hc29 => ?_) (fun hc29 => ?_)
      · refine xn_iconst (q := 37) 0 dX9_readNumber_36 rfl (by decide) ?_
        exact good M ⟨bI_eq.mp hc10, by have := of_decide_eq_true (bI_ne.mp hc20); omega⟩ hM
      · refine xn_iconst (q := 33) 1 dX9_readNumber_32 rfl (by decide) ?_
        refine x_goto 37 dX9_readNumber_33 (by decide) ?_
        exact bad M (fun h => by omega) hM
end XR2
