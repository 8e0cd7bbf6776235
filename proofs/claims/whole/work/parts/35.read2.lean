section XR3
def rdBp (σ σ' : mS) (t : List Nat) (f : Nat) (w : Bool) (k : Nat) : Prop :=
  onl [29, 30] [31, 32, 33, 34] [] σ σ' ∧ Rd σ' t (rdB t f w).2.2.2.2.2.1 (rdB t f w).2.2.2.2.2.2 ∧ (∀ i, i ≠ k + 1 → σ'.2.1 31 i = σ.2.1 31 i) ∧ (∀ i, i ≠ k → σ'.2.1 32 i = σ.2.1 32 i ∧ σ'.2.1 33 i = σ.2.1 33 i) ∧ (∀ i, i ≠ 2 * k → i ≠ 2 * k + 1 → σ'.2.1 34 i = σ.2.1 34 i) ∧ σ'.2.1 32 k = nI (rdB t f w).1 ∧ σ'.2.1 33 k = nI (rdB t f w).2.1 ∧ σ'.2.1 34 (2 * k) = bI (rdB t f w).2.2.1 ∧ σ'.2.1 34 (2 * k + 1) = bI (rdB t f w).2.2.2.1 ∧ ((rdB t f w).2.2.2.2.2.2 = false → σ'.2.1 31 (k + 1) = nI (rdB t f w).2.2.2.2.1)
set_option maxRecDepth 100000 in
set_option maxHeartbeats 4000000 in
theorem c_readBeam_t (G : xG) (l : Launch) (o : Nat) (as : Nat → Nat) (M0 : xM) (N S : Nat) (d : Nat) (σ σ6 : mS) (t : List Nat) (f : Nat) (w : Bool) (k : Nat) (hk : k < 3) (M : xM)
    (o6 : onl [29, 30] [32, 34] [] σ σ6) (r6 : Rd σ6 t (rdX t (rdU t (rdH t f w).1 w).2.1 (rdU t (rdH t f w).1 w).2.2).1 (rdX t (rdU t (rdH t f w).1 w).2.1 (rdU t (rdH t f w).1 w).2.2).2)
    (h32 : ∀ i, i ≠ k → σ6.2.1 32 i = σ.2.1 32 i) (h34 : ∀ i, i ≠ 2 * k → σ6.2.1 34 i = σ.2.1 34 i) (hl : σ6.2.1 32 k = nI (rdU t (rdH t f w).1 w).1) (hh : σ6.2.1 34 (2 * k) = bI (rdH t f w).2) (hM : mAt o as σ6 M0 M) :
    xX G l YX9_readBeam (d + 2) (mQ o as M0 N S (fun x σ' => x = none ∧ rdBp σ σ' t f w k)) 68 [(0, .ref o), (1, .int (nI k))] [] M N S := by
  refine x_aload_n (q := 69) dX9_readBeam_68 rfl rfl ?_
  refine m_get (q := 72) hM 33 fwX9_78 (by decide) dX9_readBeam_69 rfl rfl ?_
  refine x_iload_n (q := 73) dX9_readBeam_72 rfl rfl ?_
  refine x_aload_n (q := 74) dX9_readBeam_73 rfl rfl ?_
  refine m_call (q := 77) (As := []) hM imX9_readNumber ivX9_readNumber ilX9_readNumber mwX9_275 xciX9 dX9_readBeam_74 rfl rfl rfl (Nat.le_of_ble_eq_true rfl) ?_
  refine (c_readNumber G l o as M0 N S d σ6 t _ _ r6).mono (fun x σ74 hp => ?_)
  obtain ⟨rfl, o74, r74⟩ := hp
  intro M hM
  show xX G l _ (d + 2) _ _ _ _ M N S
  refine m_iastG (q := 78) hM (n := 3) (by decide) dX9_readBeam_77 rfl (by omega) (fun M σ77 a77 b77 c77 e77 f77 hM => ?_)
  refine x_aload_n (q := 79) dX9_readBeam_78 rfl rfl ?_
  refine m_get (q := 82) hM 34 fwX9_81 (by decide) dX9_readBeam_79 rfl rfl ?_
  refine xn_iconst (q := 83) 2 dX9_readBeam_82 rfl (by decide) ?_
  refine x_iload_n (q := 84) dX9_readBeam_83 rfl rfl ?_
  refine xn_imul (q := 85) dX9_readBeam_84 rfl ?_
  refine xn_iconst (q := 86) 1 dX9_readBeam_85 rfl (by decide) ?_
  refine xn_iadd (q := 87) dX9_readBeam_86 rfl ?_
  refine x_aload_n (q := 88) dX9_readBeam_87 rfl rfl ?_
  refine m_call (q := 91) (As := []) hM imX9_readHinge ivX9_readHinge ilX9_readHinge mwX9_271 xciX9 dX9_readBeam_88 rfl rfl rfl (Nat.le_of_ble_eq_true rfl) ?_
  have r77 := r74.on (onl.arr a77 b77 c77) (by decide) (by decide) (by decide) (by decide)
  refine (c_readHinge G l o as M0 N S d σ77 t _ _ r77).mono (fun x σ88 hp => ?_)
  obtain ⟨rfl, o88, r88⟩ := hp
  intro M hM
  show xX G l _ (d + 2) _ _ _ _ M N S
  refine m_zastG (q := 92) hM (n := 6) (by decide) dX9_readBeam_91 rfl (by omega) (bI_v _) (fun M σ91 a91 b91 c91 e91 f91 hM => ?_)
  refine x_aload_n (q := 93) dX9_readBeam_92 rfl rfl ?_
  refine x_iload_n (q := 94) dX9_readBeam_93 rfl rfl ?_
  refine xn_iconst (q := 95) 1 dX9_readBeam_94 rfl (by decide) ?_
  refine xn_iadd (q := 96) dX9_readBeam_95 rfl ?_
  refine m_call (q := 99) (As := [_]) hM imX9_readNode ivX9_readNode ilX9_readNode mwX9_278 xciX9 dX9_readBeam_96 rfl rfl rfl (Nat.le_of_ble_eq_true rfl) ?_
  have r91 := r88.on (onl.arr a91 b91 c91) (by decide) (by decide) (by decide) (by decide)
  refine (c_readNode G l o as M0 N S d σ91 t _ _ r91 (k + 1) (by omega)).mono (fun x σ96 hp => ?_)
  obtain ⟨rfl, o96, r96, e96, f96⟩ := hp
  intro M hM
  show xX G l _ (d + 2) _ _ _ _ M N S
  have o74' : onl [29, 30] [31, 32, 33, 34] [] σ6 σ74 := o74.mono (by simp) (by simp) (by simp)
  have o77 : onl [29, 30] [31, 32, 33, 34] [] σ74 σ77 := (onl.arr a77 b77 c77).mono (by simp) (by simp) (by simp)
  have o88' : onl [29, 30] [31, 32, 33, 34] [] σ77 σ88 := o88.mono (by simp) (by simp) (by simp)
  have o91 : onl [29, 30] [31, 32, 33, 34] [] σ88 σ91 := (onl.arr a91 b91 c91).mono (by simp) (by simp) (by simp)
  have o96' : onl [29, 30] [31, 32, 33, 34] [] σ91 σ96 := o96.mono (by simp) (by simp) (by simp)
  have o6' : onl [29, 30] [31, 32, 33, 34] [] σ σ6 := o6.mono (by simp) (by simp) (by simp)
  refine x_vret rfl dX9_readBeam_99 (m_ret hM ⟨rfl, o6'.trans (o74'.trans (o77.trans (o88'.trans (o91.trans o96')))), r96, fun i hi => ?_, fun i hi => ⟨?_, ?_⟩, fun i hi hi2 => ?_, ?_, ?_, ?_, ?_, fun h => f96 h⟩)
  · rw [e96 i hi, c91 31 (by decide), o88.2.1 31 (by decide), c77 31 (by decide), o74.2.1 31 (by decide), o6.2.1 31 (by decide)]
  · rw [o96.2.1 32 (by decide), c91 32 (by decide), o88.2.1 32 (by decide), c77 32 (by decide), o74.2.1 32 (by decide)]; exact h32 i hi
  · rw [o96.2.1 33 (by decide), c91 33 (by decide), o88.2.1 33 (by decide), f77 i hi, o74.2.1 33 (by decide), o6.2.1 33 (by decide)]
  · rw [o96.2.1 34 (by decide), f91 i hi2, o88.2.1 34 (by decide), c77 34 (by decide), o74.2.1 34 (by decide)]; exact h34 i hi
  · rw [o96.2.1 32 (by decide), c91 32 (by decide), o88.2.1 32 (by decide), c77 32 (by decide), o74.2.1 32 (by decide)]; exact hl
  · rw [o96.2.1 33 (by decide), c91 33 (by decide), o88.2.1 33 (by decide)]; exact e77
  · rw [o96.2.1 34 (by decide), f91 (2 * k) (by omega), o88.2.1 34 (by decide), c77 34 (by decide), o74.2.1 34 (by decide)]; exact hh
  · rw [o96.2.1 34 (by decide)]; exact e91
set_option maxRecDepth 100000 in
set_option maxHeartbeats 4000000 in
theorem c_readBeam (G : xG) (l : Launch) (o : Nat) (as : Nat → Nat) (M0 : xM) (N S : Nat) (d : Nat) (σ : mS) (t : List Nat) (f : Nat) (w : Bool) (hR : Rd σ t f w) (k : Nat) (hk : k < 3) : mC G l o as M0 N S YX9_readBeam (d + 2) [.int (nI k)] σ (fun x σ' => x = none ∧ rdBp σ σ' t f w k) := by
  have hs := sn_le hR.1.2.2.2
  refine mC.of (ls := [(0, .ref o), (1, .int (nI k))]) (by decide) (Nat.le_of_ble_eq_true rfl) rfl fun M hM => ?_
  refine x_aload_n (q := 1) dX9_readBeam_0 rfl rfl ?_
  refine m_get (q := 4) hM 34 fwX9_81 (by decide) dX9_readBeam_1 rfl rfl ?_
  refine xn_iconst (q := 5) 2 dX9_readBeam_4 rfl (by decide) ?_
  refine x_iload_n (q := 6) dX9_readBeam_5 rfl rfl ?_
  refine xn_imul (q := 7) dX9_readBeam_6 rfl ?_
  refine x_aload_n (q := 8) dX9_readBeam_7 rfl rfl ?_
  refine m_call (q := 11) (As := []) hM imX9_readHinge ivX9_readHinge ilX9_readHinge mwX9_271 xciX9 dX9_readBeam_8 rfl rfl rfl (Nat.le_of_ble_eq_true rfl) ?_
  refine (c_readHinge G l o as M0 N S d σ t _ _ hR).mono (fun x σ8 hp => ?_)
  obtain ⟨rfl, o8, r8⟩ := hp
  intro M hM
  show xX G l _ (d + 2) _ _ _ _ M N S
  refine m_zastG (q := 12) hM (n := 6) (by decide) dX9_readBeam_11 rfl (by omega) (bI_v _) (fun M σ11 a11 b11 c11 e11 f11 hM => ?_)
  refine x_aload_n (q := 13) dX9_readBeam_12 rfl rfl ?_
  refine m_get (q := 16) hM 32 fwX9_75 (by decide) dX9_readBeam_13 rfl rfl ?_
  refine x_iload_n (q := 17) dX9_readBeam_16 rfl rfl ?_
  refine x_aload_n (q := 18) dX9_readBeam_17 rfl rfl ?_
  refine m_call (q := 21) (As := []) hM imX9_readNumber ivX9_readNumber ilX9_readNumber mwX9_275 xciX9 dX9_readBeam_18 rfl rfl rfl (Nat.le_of_ble_eq_true rfl) ?_
  have r11 := r8.on (onl.arr a11 b11 c11) (by decide) (by decide) (by decide) (by decide)
  refine (c_readNumber G l o as M0 N S d σ11 t _ _ r11).mono (fun x σ18 hp => ?_)
  obtain ⟨rfl, o18, r18⟩ := hp
  intro M hM
  show xX G l _ (d + 2) _ _ _ _ M N S
  refine m_iastG (q := 22) hM (n := 3) (by decide) dX9_readBeam_21 rfl (by omega) (fun M σ21 a21 b21 c21 e21 f21 hM => ?_)
  have o18' : onl [29, 30] [32, 34] [] σ σ21 := (o8.mono (by simp) (by simp) (by simp)).trans (((onl.arr a11 b11 c11).mono (by simp) (by simp) (by simp)).trans ((o18.mono (by simp) (by simp) (by simp)).trans ((onl.arr a21 b21 c21).mono (by simp) (by simp) (by simp))))
  have r21 := r18.on (onl.arr a21 b21 c21) (by decide) (by decide) (by decide) (by decide)
  have h50 := r21.1.1
  have hf2 := r21.2.2.2
  have mid : ∀ (w' : Bool) (M : xM), w' = (rdX t (rdU t (rdH t f w).1 w).2.1 (rdU t (rdH t f w).1 w).2.2).2 → mAt o as σ21 M0 M → xX G l YX9_readBeam (d + 2) (mQ o as M0 N S (fun x σ' => x = none ∧ rdBp σ σ' t f w k)) 44 [(0, .ref o), (1, .int (nI k))] [.int (bI w'), .ref o] M N S := by
    intro w' M hw hM
    refine m_putG (q := 47) hM 30 fwX9_264 (by decide) rfl rfl rfl dX9_readBeam_44 rfl (bI_n _) (bI_f _) (fun M σ44 a44 e44 b44 hM => ?_)
    refine x_aload_n (q := 48) dX9_readBeam_47 rfl rfl ?_
    refine x_dup (q := 49) dX9_readBeam_48 rfl rfl ?_
    refine m_get (q := 52) hM 29 fwX9_258 (by decide) dX9_readBeam_49 rfl rfl ?_
    rw [show σ44.1 29 = nI (rdU t (rdH t f w).1 w).2.1 from (a44 29 (by decide)).trans r21.2.1]
    refine x_aload_n (q := 53) dX9_readBeam_52 rfl rfl ?_
    refine m_get (q := 56) hM 30 fwX9_264 (by decide) dX9_readBeam_53 rfl rfl ?_
    rw [e44]
    refine x_if_eq (q := 59) 63 dX9_readBeam_56 (by decide) rfl (fun hc56 => ?_) (fun hc56 => ?_)
    · refine xn_iconst (q := 64) 1 dX9_readBeam_63 rfl (by decide) ?_
      refine xn_iadd (q := 65) dX9_readBeam_64 rfl ?_
      refine m_putG (q := 68) hM 29 fwX9_258 (by decide) rfl rfl rfl dX9_readBeam_65 rfl rfl rfl (fun M σ65 a65 e65 b65 hM => ?_)
      have oo : onl [29, 30] [32, 34] [] σ21 σ65 := ((onl.fld a44 b44).mono (by simp) (by simp) (by simp)).trans ((onl.fld a65 b65).mono (by simp) (by simp) (by simp))
      have hx : (rdU t (rdH t f w).1 w).2.2 = false ∧ sn t (rdU t (rdH t f w).1 w).2.1 = 120 := by
        rw [bI_eq.mp hc56] at hw; unfold rdX at hw; split at hw
        · assumption
        · exact absurd hw (by simp)
      have e0 : rdX t (rdU t (rdH t f w).1 w).2.1 (rdU t (rdH t f w).1 w).2.2 = ((rdU t (rdH t f w).1 w).2.1 + 1, false) := if_pos hx
      have hlt : (rdU t (rdH t f w).1 w).2.1 < t.length := sn_lt (by omega)
      have r65 : Rd σ65 t (rdX t (rdU t (rdH t f w).1 w).2.1 (rdU t (rdH t f w).1 w).2.2).1 (rdX t (rdU t (rdH t f w).1 w).2.1 (rdU t (rdH t f w).1 w).2.2).2 := ⟨r21.1.on oo (by decide) (by decide), by rw [e65, e0], by rw [a65 30 (by decide), e44, hw], by rw [e0]; dsimp only; omega⟩
      refine c_readBeam_t G l o as M0 N S d σ σ65 t f w k hk M (o18'.trans oo) r65 (fun i hi => ?_) (fun i hi => ?_) ?_ ?_ hM
      · rw [show σ65.2.1 32 i = σ21.2.1 32 i by rw [b65, b44], f21 i hi, o18.2.1 32 (by decide), c11 32 (by decide), o8.2.1 32 (by decide)]
      · rw [show σ65.2.1 34 i = σ21.2.1 34 i by rw [b65, b44], c21 34 (by decide), o18.2.1 34 (by decide), f11 i hi, o8.2.1 34 (by decide)]
      · rw [show σ65.2.1 32 k = σ21.2.1 32 k by rw [b65, b44]]; exact e21
      · rw [show σ65.2.1 34 (2 * k) = σ21.2.1 34 (2 * k) by rw [b65, b44], c21 34 (by decide), o18.2.1 34 (by decide)]; exact e11
    · refine xn_iconst (q := 60) 0 dX9_readBeam_59 rfl (by decide) ?_
      refine x_goto 64 dX9_readBeam_60 (by decide) ?_
      refine xn_iadd (q := 65) dX9_readBeam_64 rfl ?_
      refine m_putG (q := 68) hM 29 fwX9_258 (by decide) rfl rfl rfl dX9_readBeam_65 rfl rfl rfl (fun M σ65 a65 e65 b65 hM => ?_)
      have oo : onl [29, 30] [32, 34] [] σ21 σ65 := ((onl.fld a44 b44).mono (by simp) (by simp) (by simp)).trans ((onl.fld a65 b65).mono (by simp) (by simp) (by simp))
      have e0 : rdX t (rdU t (rdH t f w).1 w).2.1 (rdU t (rdH t f w).1 w).2.2 = ((rdU t (rdH t f w).1 w).2.1, true) := by
        rw [bI_ne.mp hc56] at hw; unfold rdX at *; split at hw
        · exact absurd hw (by simp)
        · rename_i h; exact if_neg h
      rw [Nat.add_zero] at e65
      have r65 : Rd σ65 t (rdX t (rdU t (rdH t f w).1 w).2.1 (rdU t (rdH t f w).1 w).2.2).1 (rdX t (rdU t (rdH t f w).1 w).2.1 (rdU t (rdH t f w).1 w).2.2).2 := ⟨r21.1.on oo (by decide) (by decide), by rw [e65, e0], by rw [a65 30 (by decide), e44, hw], by rw [e0]; dsimp only; omega⟩
      refine c_readBeam_t G l o as M0 N S d σ σ65 t f w k hk M (o18'.trans oo) r65 (fun i hi => ?_) (fun i hi => ?_) ?_ ?_ hM
      · rw [show σ65.2.1 32 i = σ21.2.1 32 i by rw [b65, b44], f21 i hi, o18.2.1 32 (by decide), c11 32 (by decide), o8.2.1 32 (by decide)]
      · rw [show σ65.2.1 34 i = σ21.2.1 34 i by rw [b65, b44], c21 34 (by decide), o18.2.1 34 (by decide), f11 i hi, o8.2.1 34 (by decide)]
      · rw [show σ65.2.1 32 k = σ21.2.1 32 k by rw [b65, b44]]; exact e21
      · rw [show σ65.2.1 34 (2 * k) = σ21.2.1 34 (2 * k) by rw [b65, b44], c21 34 (by decide), o18.2.1 34 (by decide)]; exact e11
  refine x_aload_n (q := 23) dX9_readBeam_22 rfl rfl ?_
  refine x_aload_n (q := 24) dX9_readBeam_23 rfl rfl ?_
  refine m_get (q := 27) hM 30 fwX9_264 (by decide) dX9_readBeam_24 rfl rfl ?_
  rw [r21.2.2.1]
  refine x_if_ne (q := 30) 39 dX9_readBeam_27 (by decide) rfl (fun hc27 => ?_) (fun hc27 => ?_)
  · refine xn_iconst (q := 40) 1 dX9_readBeam_39 rfl (by decide) ?_
    refine x_goto 44 dX9_readBeam_40 (by decide) ?_
    exact mid true M (by unfold rdX; rw [if_neg (fun h => by rw [h.1] at hc27; exact hc27 rfl)]) hM
  · refine x_aload_n (q := 31) dX9_readBeam_30 rfl rfl ?_
    refine m_call (q := 34) (As := []) hM imX9_seen ivX9_seen ilX9_seen mwX9_261 xciX9 dX9_readBeam_31 rfl rfl rfl (Nat.le_of_ble_eq_true rfl) ?_
    have hs2 := hs (rdU t (rdH t f w).1 w).2.1
    refine (c_seen G l o as M0 N S _ σ21 t _ _ r21).mono (fun x σ9 hp => ?_)
    obtain ⟨rfl, e9⟩ := hp
    intro M hM
    rw [e9] at hM; clear e9 σ9
    show xX G l _ (d + 2) _ _ _ _ M N S
    refine xn_bipush (q := 36) 120 dX9_readBeam_34 rfl (by decide) ?_
    refine xn_icmp_eq (q := 39) 43 dX9_readBeam_36 (by decide) rfl (by omega) (by omega) (fun hc36 => ?_) (fun hc36 => ?_)
    · refine xn_iconst (q := 44) 0 dX9_readBeam_43 rfl (by decide) ?_
      exact mid false M (by unfold rdX; rw [if_pos ⟨bI_eq.mp hc27, hc36⟩]) hM
    · refine xn_iconst (q := 40) 1 dX9_readBeam_39 rfl (by decide) ?_
      refine x_goto 44 dX9_readBeam_40 (by decide) ?_
      exact mid true M (by unfold rdX; rw [if_neg (fun h => by omega)]) hM
end XR3
