section XW4
/-! the class, the reference and the law's array, side by side in memory -/
def rfB (o ob : Nat) (as : Nat → Nat) (a : Nat) : Bool := a == o || (a == ob || mArr.any (fun k => a == as k))
def rsF (o ob : Nat) (as : Nat → Nat) (M : xM) : xM := fun a => if rfB o ob as a = true then M a else none
theorem rfB_o {o ob : Nat} {as : Nat → Nat} : rfB o ob as o = true := by unfold rfB; rw [beq_self_eq_true, Bool.true_or]
theorem rfB_ob {o ob : Nat} {as : Nat → Nat} : rfB o ob as ob = true := by unfold rfB; rw [beq_self_eq_true, Bool.true_or, Bool.or_true]
theorem rfB_as {o ob : Nat} {as : Nat → Nat} {k : Nat} (hk : k ∈ mArr) : rfB o ob as (as k) = true := by
  have e : mArr.any (fun j => as k == as j) = true := List.any_eq_true.mpr ⟨k, hk, beq_self_eq_true (as k)⟩
  unfold rfB
  rw [e, Bool.or_true, Bool.or_true]
theorem rfB_c {o ob : Nat} {as : Nat → Nat} {a : Nat} (h : rfB o ob as a = true) : a = o ∨ a = ob ∨ ∃ k, k ∈ mArr ∧ a = as k := by
  unfold rfB at h
  rw [Bool.or_eq_true, Bool.or_eq_true, beq_iff_eq, beq_iff_eq, List.any_eq_true] at h
  rcases h with h | h | ⟨k, h1, h2⟩
  · exact .inl h
  · exact .inr (.inl h)
  · exact .inr (.inr ⟨k, h1, beq_iff_eq.mp h2⟩)
theorem mArr_in : ∀ k ∈ mArr, (mInts.any (fun q => q.1 == k) || (mBools.any (fun q => q.1 == k) || mLongs.any (fun q => q.1 == k))) = true := by decide
theorem mAt.some {o : Nat} {as : Nat → Nat} {τ : mS} {M0 M : xM} (h : mAt o as τ M0 M) {k : Nat} (hk : k ∈ mArr) : ∃ e, M (as k) = some e := by
  have h1 := mArr_in k hk
  obtain ⟨-, -, g1, g2, g3, -⟩ := h
  rw [Bool.or_eq_true, Bool.or_eq_true, List.any_eq_true, List.any_eq_true, List.any_eq_true] at h1
  rcases h1 with ⟨⟨j, n⟩, h2, h3⟩ | ⟨⟨j, n⟩, h2, h3⟩ | ⟨⟨j, n⟩, h2, h3⟩
  · have h3 : j = k := beq_iff_eq.mp h3
    subst h3
    exact ⟨_, g1 j n h2⟩
  · have h3 : j = k := beq_iff_eq.mp h3
    subst h3
    exact ⟨_, g2 j n h2⟩
  · have h3 : j = k := beq_iff_eq.mp h3
    subst h3
    exact ⟨_, g3 j n h2⟩
/-- the class holds σ, the reference τ, the law's array f -/
def LV (G : xG) (ad : Nat → Nat) (o ob : Nat) (as : Nat → Nat) (R : Nat × Nat) (σ : cZ) (τ : mS) (f : Nat → Int64) (M : xM) (N S : Nat) : Prop :=
  cA G ad (rsF o ob as M) R σ M N S ∧ mAt o as τ M M ∧ M ob = some (.inl (.long, 1, .inr (.inl f))) ∧ ob ≠ o ∧ ∀ k, k ∈ mArr → ob ≠ as k
section
variable {G : xG} {l : Launch} {ad : Nat → Nat} {o ob : Nat} {as : Nat → Nat} {R : Nat × Nat} {σ : cZ} {τ : mS} {f : Nat → Int64} {M : xM} {N S : Nat}
theorem LV.here (h : LV G ad o ob as R σ τ f M N S) {a : Nat} (ha : rfB o ob as a = true) : ∃ e, M a = some e := by
  rcases rfB_c ha with rfl | rfl | ⟨k, hk, rfl⟩
  · exact ⟨_, h.2.1.2.1⟩
  · exact ⟨_, h.2.2.1⟩
  · exact h.2.1.some hk
theorem LV.ne (h : LV G ad o ob as R σ τ f M N S) {a : Nat} (ha : rfB o ob as a = true) : ∀ k, cV k → a ≠ cad ad σ k := by
  obtain ⟨e, he⟩ := h.here ha
  exact (h.1.2.2.1 a e (by unfold rsF; rw [if_pos ha]; exact he)).2
theorem LV.cls (h : LV G ad o ob as R σ τ f M N S) {R' : Nat × Nat} {σ' : cZ} {M' : xM} {N' S' : Nat} (hA : cA G ad (rsF o ob as M) R' σ' M' N' S') : LV G ad o ob as R' σ' τ f M' N' S' := by
  have hsame : ∀ a, rfB o ob as a = true → M' a = M a := fun a ha => by
    obtain ⟨e, he⟩ := h.here ha
    rw [he]
    exact (hA.2.2.1 a e (by unfold rsF; rw [if_pos ha]; exact he)).1
  have hF : rsF o ob as M' = rsF o ob as M := by
    funext a
    unfold rsF
    by_cases ha : rfB o ob as a = true
    · rw [if_pos ha, if_pos ha, hsame a ha]
    · rw [if_neg ha, if_neg ha]
  obtain ⟨-, ⟨ok, g1, g2, g3, g4, -⟩, h3, h4⟩ := h
  exact ⟨by rw [hF]; exact hA, ⟨ok, by rw [hsame o rfB_o]; exact g1, fun k n hk => by rw [hsame _ (rfB_as (mInts_arr _ hk))]; exact g2 k n hk, fun k n hk => by rw [hsame _ (rfB_as (mBools_arr _ hk))]; exact g3 k n hk, fun k n hk => by rw [hsame _ (rfB_as (mLongs_arr _ hk))]; exact g4 k n hk, fun _ _ _ => rfl⟩, by rw [hsame ob rfB_ob]; exact h3, h4⟩
theorem cA.other {F F' : xM} {M' : xM} (h : cA G ad F R σ M N S) (h1 : ∀ k, cV k → M' (cad ad σ k) = M (cad ad σ k)) (h2 : ∀ a e, F' a = some e → M' a = some e ∧ ∀ k, cV k → a ≠ cad ad σ k) : cA G ad F' R σ M' N S :=
  ⟨fun k e hk => by rw [h1 k (cE_v hk)]; exact h.1 k e hk, h.2.1, h2, h.2.2.2⟩
theorem LV.ref (h : LV G ad o ob as R σ τ f M N S) {τ' : mS} {M' : xM} (h2 : mAt o as τ' M M') : LV G ad o ob as R σ τ' f M' N S := by
  have hold : ∀ b, b ≠ o → (∀ k, k ∈ mArr → b ≠ as k) → M' b = M b := h2.2.2.2.2.2
  obtain ⟨ok, g1, g2, g3, g4, -⟩ := h2
  refine ⟨h.1.other (fun k hk => hold _ (fun e => h.ne rfB_o k hk e.symm) (fun j hj e => h.ne (rfB_as hj) k hk e.symm)) (fun a e ha => ?_), ⟨ok, g1, g2, g3, g4, fun _ _ _ => rfl⟩, by rw [hold ob h.2.2.2.1 h.2.2.2.2]; exact h.2.2.1, h.2.2.2⟩
  unfold rsF at ha
  by_cases hb : rfB o ob as a = true
  · rw [if_pos hb] at ha
    exact ⟨ha, h.ne hb⟩
  · rw [if_neg hb] at ha; cases ha
theorem LV.out (h : LV G ad o ob as R σ τ f M N S) (f' : Nat → Int64) : LV G ad o ob as R σ τ f' (xup M ob (.inl (.long, 1, .inr (.inl f')))) N S := by
  obtain ⟨ok, g1, g2, g3, g4, -⟩ := h.2.1
  refine ⟨h.1.other (fun k hk => xup_n (fun e => h.ne rfB_ob k hk e.symm)) (fun a e ha => ?_), ⟨ok, by rw [xup_n h.2.2.2.1.symm]; exact g1, fun k n hk => by rw [xup_n (h.2.2.2.2 k (mInts_arr _ hk)).symm]; exact g2 k n hk, fun k n hk => by rw [xup_n (h.2.2.2.2 k (mBools_arr _ hk)).symm]; exact g3 k n hk, fun k n hk => by rw [xup_n (h.2.2.2.2 k (mLongs_arr _ hk)).symm]; exact g4 k n hk, fun _ _ _ => rfl⟩, xup_s _ _ _, h.2.2.2⟩
  unfold rsF at ha
  by_cases hb : rfB o ob as a = true
  · rw [if_pos hb] at ha
    exact ⟨ha, h.ne hb⟩
  · rw [if_neg hb] at ha; cases ha
theorem LV.room (h : LV G ad o ob as R σ τ f M N S) : N ≤ R.1 + 163840 ∧ S ≤ R.2 + 327680 := by
  have h1 := lsum_le (fun b hb => (h.1.2.2.2.1 b hb).2)
  have h2 := h.1.2.2.2.2.1
  omega
/-- a throw was made and caught -/
theorem LV.thr (h : LV G ad o ob as R σ τ f M N S) {N' S' : Nat} (hN : N' ≤ N + 1) (hS : S' ≤ S + 6) (h1 : R.1 + 1 + 163840 ≤ G.2.2.2.2.1) (h2 : R.2 + 6 + 327680 ≤ G.2.2.2.2.2) : LV G ad o ob as (R.1 + 1, R.2 + 6) σ τ f M N' S' := by
  obtain ⟨⟨a1, a2, a3, a4, a5, a6⟩, h3⟩ := h
  exact ⟨⟨a1, a2, a3, a4, ⟨by show N' ≤ R.1 + 1 + lsum σ; omega, by show S' ≤ R.2 + 6 + 2 * lsum σ; omega⟩, h1, h2⟩, h3⟩
end
section
variable {G : xG} {l : Launch} {Y : xY} {d : Nat} {Q : xPost} {pc q : Nat} {ls : List (Nat × Value)} {st : List Value} {M : xM} {N S : Nat} {ad : Nat → Nat} {o ob : Nat} {as : Nat → Nat} {R : Nat × Nat} {σ : cZ} {τ : mS} {f : Nat → Int64}
/-- a call of the class -/
theorem l_callC {y : MethodName} {cc : ByteArray} {mxl : Nat} {ret : Option FieldType} {n index : Nat} {As rest : List Value} {Post : Option Value → cZ → Prop} (h : LV G ad o ob as R σ τ f M N S) (hcl : y.cls = RX8) (hm : xm (y, cc, mxl, ret) n) (hw1 : Cond.instanceMethod y ∈ xW) (hw2 : Cond.selects y.cls y y ∈ xW) (hw : Cond.methodLink Y.1.cls index y ∈ xW) (hd : decode Y.2.1 pc = .ok (.invokevirtual index, 3)) (hq : pc + 3 = q) (hst : st = As.reverse ++ .ref (ad 0) :: rest) (hn : As.length = n) (hr : (rest.map fun v => v.category).sum ≤ 8)
    (hC : cC G l ad (rsF o ob as M) R (y, cc, mxl, ret) d (.ref (ad 0) :: As) σ Post) (k : ∀ r σ' M' N' S', LV G ad o ob as R σ' τ f M' N' S' → Post r σ' → xX G l Y (d + 1) Q q ls (r.toList ++ rest) M' N' S') : xX G l Y (d + 1) Q pc ls st M N S := by
  refine x_callV (ci := 11) (b := ad 0) (As := As) (rest := rest) hm hw1 hw2 hw (by show ∃ T n, vwCl[11]? = some (y.cls, T, n); rw [hcl]; exact xciX8) (h.1.obj (k := 0) rfl) hd hq hst hn hr ?_
  exact (hC M N S h.1).mono (fun r M' N' S' hp => by
    obtain ⟨σ', hA, hP⟩ := hp
    exact k r σ' M' N' S' (h.cls hA) hP)
/-- a call of the reference -/
theorem l_callM {y : MethodName} {cc : ByteArray} {mxl : Nat} {ret : Option FieldType} {n index : Nat} {As rest : List Value} {Post : Option Value → mS → Prop} (h : LV G ad o ob as R σ τ f M N S) (hcl : y.cls = RX9) (hm : xm (y, cc, mxl, ret) n) (hw1 : Cond.instanceMethod y ∈ xW) (hw2 : Cond.selects y.cls y y ∈ xW) (hw : Cond.methodLink Y.1.cls index y ∈ xW) (hd : decode Y.2.1 pc = .ok (.invokevirtual index, 3)) (hq : pc + 3 = q) (hst : st = As.reverse ++ .ref o :: rest) (hn : As.length = n) (hr : (rest.map fun v => v.category).sum ≤ 8)
    (hC : mC G l o as M N S (y, cc, mxl, ret) d As τ Post) (k : ∀ r τ' M', LV G ad o ob as R σ τ' f M' N S → Post r τ' → xX G l Y (d + 1) Q q ls (r.toList ++ rest) M' N S) : xX G l Y (d + 1) Q pc ls st M N S := by
  refine x_callV (ci := 12) (b := o) (As := As) (rest := rest) hm hw1 hw2 hw (by show ∃ T n, vwCl[12]? = some (y.cls, T, n); rw [hcl]; exact xciX9) h.2.1.2.1 hd hq hst hn hr ?_
  exact (hC M h.2.1).mono (fun r M' N' S' hp => by
    obtain ⟨rfl, rfl, τ', hA, hP⟩ := hp
    exact k r τ' M' (h.ref hA) hP)
end
/-- what a static call of the law leaves: thrown or not, the answer in the law's array -/
def sQ (G : xG) (ad : Nat → Nat) (o ob : Nat) (as : Nat → Nat) (R : Nat × Nat) (τ : mS) (w : Bool × Bool × mT) : xPost := fun r M' N' S' =>
  ∃ (R' : Nat × Nat) (σ' : cZ) (f' : Nat → Int64), LV G ad o ob as R' σ' τ f' M' N' S' ∧ CZ σ' w.2.2 ∧ r = some (.int (bI w.1)) ∧ R'.1 ≤ R.1 + 1 ∧ R'.2 ≤ R.2 + 6 ∧ (w.1 = false → f' 0 = lN (if w.2.1 = true then 1 else 0))
theorem lB1 {b : Bool} (h : b = true) : lN 1 = lN (if b = true then 1 else 0) := by rw [if_pos h]
theorem lB0 {b : Bool} (h : b = false) : lN 0 = lN (if b = true then 1 else 0) := by rw [h]; rfl
theorem updL0 (f : Nat → Int64) (x : Int64) : vp_updL f (nI 0).toNatClampNeg x 0 = x := by rw [nI_clamp (by decide)]; exact if_pos rfl
section
variable {G : xG} {l : Launch} {d : Nat} {M : xM} {N S : Nat} {ad : Nat → Nat} {o ob : Nat} {as : Nat → Nat} {R : Nat × Nat} {σ : cZ} {τ : mS} {f : Nat → Int64} {z : mT}
theorem s_member (hlt : l.stackTraces = false) (h : LV G ad o ob as R σ τ f M N S) (hz : CZ σ z) (k L E : Int) (hk1 : -2147483648 ≤ k) (hk2 : k < 2147483648) (hL1 : -9223372036854775808 ≤ L) (hL2 : L < 9223372036854775808) (hE1 : -9223372036854775808 ≤ E) (hE2 : E < 9223372036854775808) (hR1 : R.1 + 1 + 163840 ≤ G.2.2.2.2.1) (hR2 : R.2 + 6 + 327680 ≤ G.2.2.2.2.2) : xCW G l YL_member hhL_member (d + 9) [.ref (ad 0), .int (iI k), .long (iL L), .long (iL E), .ref ob] M N S (sQ G ad o ob as R τ (spMember z k L E)) := by
  refine xCW.of (ls := [(0, .ref (ad 0)), (1, .int (iI k)), (2, .long (iL L)), (4, .long (iL E)), (6, .ref ob)]) (by decide) (Nat.le_of_ble_eq_true rfl) rfl ?_
  have hro := h.room
  by_cases hk : k < 0 ∨ (z.1.m : Int) ≤ k
  · have e0 : spMember z k L E = (true, false, z) := by unfold spMember; rw [if_pos hk]
    rw [e0]
    refine y_aload (q := 2) dL_member_0 rfl rfl ?_
    refine y_iconst (q := 3) (nI 0) dL_member_2 rfl (by decide) ?_
    refine y_aload_n (q := 4) dL_member_3 rfl rfl ?_
    refine y_iload_n (q := 5) dL_member_4 rfl rfl ?_
    refine y_lload_n (q := 6) dL_member_5 rfl rfl ?_
    refine y_lload (q := 8) dL_member_6 rfl rfl ?_
    refine y_try (Y' := YX8_member) (ci := 11) (b := ad 0) (As := [.int (iI k), .long (iL L), .long (iL E)]) (rest := [.int (nI 0), .ref ob]) (x := ⟨0, 20, 23, 13⟩) imX8_member ivX8_member ilX8_member mwL_7 xciX8 (h.1.obj (k := 0) rfl) dL_member_8 rfl rfl (Nat.le_of_ble_eq_true rfl) rfl (by decide) (by decide) clL_13 castA (by omega) (by omega) (t_member (d := d + 7) hlt (by omega) (h.1.obj (k := 0) rfl) rfl (h.1.obj (k := 1) rfl) (show _ = some (Value.int (nI z.1.m)) by rw [← hz.1.2.1]; rfl) hz.1.1 hk1 hk2 hk) (fun q9 N9 S9 hN9 hS9 => ?_)
    refine x_astore (q := 25) (ls' := [(7, _)]) [0] dL_member_23 rfl (by decide) rfl ?_
    refine x_iconst (q := 26) (bI true) dL_member_25 rfl (by decide) ?_
    exact x_iret rfl dL_member_26 ⟨(R.1 + 1, R.2 + 6), σ, f, h.thr hN9 hS9 hR1 hR2, hz, rfl, Nat.le_refl _, Nat.le_refl _, fun e => absurd (show true = false from e) (by decide)⟩
  · have e1 : (spMember z k L E).1 = false := by unfold spMember; rw [if_neg hk]; split <;> (first | rfl | (split <;> rfl))
    refine yX.of ?_
    refine x_aload (q := 2) dL_member_0 rfl rfl ?_
    refine xn_iconst (q := 3) 0 dL_member_2 rfl (by decide) ?_
    refine x_aload_n (q := 4) dL_member_3 rfl rfl ?_
    refine x_iload_n (q := 5) dL_member_4 rfl rfl ?_
    refine x_lload_n (q := 6) dL_member_5 rfl rfl ?_
    refine x_lload (q := 8) dL_member_6 rfl rfl ?_
    refine l_callC (As := [.int (iI k), .long (iL L), .long (iL E)]) (rest := [.int (nI 0), .ref ob]) (q := 11) h rfl imX8_member ivX8_member ilX8_member mwL_7 dL_member_8 rfl rfl rfl (Nat.le_of_ble_eq_true rfl) (w_member G l ad _ R (d + 6) σ z hz k L E hk hL1 hL2 hE1 hE2) (fun r9 σ9 M9 N9 S9 h9 hp => ?_)
    obtain ⟨rfl, hz9⟩ := hp
    refine x_if_eq (q := 14) 18 dL_member_11 (by decide) rfl (fun hc => ?_) (fun hc => ?_)
    · refine xn_lconst (q := 19) 0 dL_member_18 rfl (by decide) ?_
      refine x_last (q := 20) (n := 1) (f := f) dL_member_19 rfl h9.2.2.1 (vp_in_nI (by decide) (by decide)) ?_
      refine x_goto 27 dL_member_20 (by decide) ?_
      refine x_iconst (q := 28) (bI false) dL_member_27 rfl (by decide) ?_
      exact x_iret rfl dL_member_28 ⟨R, σ9, _, h9.out _, hz9, by rw [e1], by omega, by omega, fun _ => (updL0 _ _).trans (lB0 (bI_eq.mp hc))⟩
    · refine xn_lconst (q := 15) 1 dL_member_14 rfl (by decide) ?_
      refine x_goto 19 dL_member_15 (by decide) ?_
      refine x_last (q := 20) (n := 1) (f := f) dL_member_19 rfl h9.2.2.1 (vp_in_nI (by decide) (by decide)) ?_
      refine x_goto 27 dL_member_20 (by decide) ?_
      refine x_iconst (q := 28) (bI false) dL_member_27 rfl (by decide) ?_
      exact x_iret rfl dL_member_28 ⟨R, σ9, _, h9.out _, hz9, by rw [e1], by omega, by omega, fun _ => (updL0 _ _).trans (lB1 (bI_ne.mp hc))⟩
theorem s_support (hlt : l.stackTraces = false) (h : LV G ad o ob as R σ τ f M N S) (hz : CZ σ z) (hse : seI z.1) (k a : Int) (b : Bool) (hk1 : -2147483648 ≤ k) (hk2 : k < 2147483648) (ha1 : -2147483648 ≤ a) (ha2 : a < 2147483648) (hR1 : R.1 + 1 + 163840 ≤ G.2.2.2.2.1) (hR2 : R.2 + 6 + 327680 ≤ G.2.2.2.2.2) : xCW G l YL_support hhL_support (d + 9) [.ref (ad 0), .int (iI k), .int (iI a), .int (bI b), .ref ob] M N S (sQ G ad o ob as R τ (spSupport z k a b)) := by
  refine xCW.of (ls := [(0, .ref (ad 0)), (1, .int (iI k)), (2, .int (iI a)), (3, .int (bI b)), (4, .ref ob)]) (by decide) (Nat.le_of_ble_eq_true rfl) rfl ?_
  have hro := h.room
  by_cases hk : k < 0 ∨ (z.1.m : Int) < k
  · have e0 : spSupport z k a b = (true, false, z) := by unfold spSupport; rw [if_pos hk]
    rw [e0]
    refine y_aload (q := 2) dL_support_0 rfl rfl ?_
    refine y_iconst (q := 3) (nI 0) dL_support_2 rfl (by decide) ?_
    refine y_aload_n (q := 4) dL_support_3 rfl rfl ?_
    refine y_iload_n (q := 5) dL_support_4 rfl rfl ?_
    refine y_iload_n (q := 6) dL_support_5 rfl rfl ?_
    refine y_iload_n (q := 7) dL_support_6 rfl rfl ?_
    refine y_try (Y' := YX8_support) (ci := 11) (b := ad 0) (As := [.int (iI k), .int (iI a), .int (bI b)]) (rest := [.int (nI 0), .ref ob]) (x := ⟨0, 19, 22, 13⟩) imX8_support ivX8_support ilX8_support mwL_15 xciX8 (h.1.obj (k := 0) rfl) dL_support_7 rfl rfl (Nat.le_of_ble_eq_true rfl) rfl (by decide) (by decide) clL_13 castA (by omega) (by omega) (t_support (d := d + 6) hlt (by omega) (h.1.obj (k := 0) rfl) rfl (h.1.obj (k := 1) rfl) (show _ = some (Value.int (nI z.1.m)) by rw [← hz.1.2.1]; rfl) hz.1.1 hk1 hk2 hk) (fun q9 N9 S9 hN9 hS9 => ?_)
    refine x_astore (q := 24) (ls' := [(5, _)]) [0] dL_support_22 rfl (by decide) rfl ?_
    refine x_iconst (q := 25) (bI true) dL_support_24 rfl (by decide) ?_
    exact x_iret rfl dL_support_25 ⟨(R.1 + 1, R.2 + 6), σ, f, h.thr hN9 hS9 hR1 hR2, hz, rfl, Nat.le_refl _, Nat.le_refl _, fun e => absurd (show true = false from e) (by decide)⟩
  · have e1 : (spSupport z k a b).1 = false := by unfold spSupport; rw [if_neg hk]; split <;> (first | rfl | (split <;> rfl))
    refine yX.of ?_
    refine x_aload (q := 2) dL_support_0 rfl rfl ?_
    refine xn_iconst (q := 3) 0 dL_support_2 rfl (by decide) ?_
    refine x_aload_n (q := 4) dL_support_3 rfl rfl ?_
    refine x_iload_n (q := 5) dL_support_4 rfl rfl ?_
    refine x_iload_n (q := 6) dL_support_5 rfl rfl ?_
    refine x_iload_n (q := 7) dL_support_6 rfl rfl ?_
    refine l_callC (As := [.int (iI k), .int (iI a), .int (bI b)]) (rest := [.int (nI 0), .ref ob]) (q := 10) h rfl imX8_support ivX8_support ilX8_support mwL_15 dL_support_7 rfl rfl rfl (Nat.le_of_ble_eq_true rfl) (w_support G l ad _ R (d + 6) σ z hz hse k a b hk ha1 ha2) (fun r9 σ9 M9 N9 S9 h9 hp => ?_)
    obtain ⟨rfl, hz9⟩ := hp
    refine x_if_eq (q := 13) 17 dL_support_10 (by decide) rfl (fun hc => ?_) (fun hc => ?_)
    · refine xn_lconst (q := 18) 0 dL_support_17 rfl (by decide) ?_
      refine x_last (q := 19) (n := 1) (f := f) dL_support_18 rfl h9.2.2.1 (vp_in_nI (by decide) (by decide)) ?_
      refine x_goto 26 dL_support_19 (by decide) ?_
      refine x_iconst (q := 27) (bI false) dL_support_26 rfl (by decide) ?_
      exact x_iret rfl dL_support_27 ⟨R, σ9, _, h9.out _, hz9, by rw [e1], by omega, by omega, fun _ => (updL0 _ _).trans (lB0 (bI_eq.mp hc))⟩
    · refine xn_lconst (q := 14) 1 dL_support_13 rfl (by decide) ?_
      refine x_goto 18 dL_support_14 (by decide) ?_
      refine x_last (q := 19) (n := 1) (f := f) dL_support_18 rfl h9.2.2.1 (vp_in_nI (by decide) (by decide)) ?_
      refine x_goto 26 dL_support_19 (by decide) ?_
      refine x_iconst (q := 27) (bI false) dL_support_26 rfl (by decide) ?_
      exact x_iret rfl dL_support_27 ⟨R, σ9, _, h9.out _, hz9, by rw [e1], by omega, by omega, fun _ => (updL0 _ _).trans (lB1 (bI_ne.mp hc))⟩
theorem s_hinge (hlt : l.stackTraces = false) (h : LV G ad o ob as R σ τ f M N S) (hz : CZ σ z) (k a : Int) (b : Bool) (hk1 : -2147483648 ≤ k) (hk2 : k < 2147483648) (ha1 : -2147483648 ≤ a) (ha2 : a < 2147483648) (hR1 : R.1 + 1 + 163840 ≤ G.2.2.2.2.1) (hR2 : R.2 + 6 + 327680 ≤ G.2.2.2.2.2) : xCW G l YL_hinge hhL_hinge (d + 9) [.ref (ad 0), .int (iI k), .int (iI a), .int (bI b), .ref ob] M N S (sQ G ad o ob as R τ (spHinge z k a b)) := by
  refine xCW.of (ls := [(0, .ref (ad 0)), (1, .int (iI k)), (2, .int (iI a)), (3, .int (bI b)), (4, .ref ob)]) (by decide) (Nat.le_of_ble_eq_true rfl) rfl ?_
  have hro := h.room
  by_cases hk : k < 0 ∨ (z.1.m : Int) ≤ k
  · have e0 : spHinge z k a b = (true, false, z) := by unfold spHinge; rw [if_pos hk]
    rw [e0]
    refine y_aload (q := 2) dL_hinge_0 rfl rfl ?_
    refine y_iconst (q := 3) (nI 0) dL_hinge_2 rfl (by decide) ?_
    refine y_aload_n (q := 4) dL_hinge_3 rfl rfl ?_
    refine y_iload_n (q := 5) dL_hinge_4 rfl rfl ?_
    refine y_iload_n (q := 6) dL_hinge_5 rfl rfl ?_
    refine y_iload_n (q := 7) dL_hinge_6 rfl rfl ?_
    refine y_try (Y' := YX8_hinge) (ci := 11) (b := ad 0) (As := [.int (iI k), .int (iI a), .int (bI b)]) (rest := [.int (nI 0), .ref ob]) (x := ⟨0, 19, 22, 13⟩) imX8_hinge ivX8_hinge ilX8_hinge mwL_19 xciX8 (h.1.obj (k := 0) rfl) dL_hinge_7 rfl rfl (Nat.le_of_ble_eq_true rfl) rfl (by decide) (by decide) clL_13 castA (by omega) (by omega) (t_hinge (d := d + 7) hlt (by omega) (h.1.obj (k := 0) rfl) rfl (h.1.obj (k := 1) rfl) (show _ = some (Value.int (nI z.1.m)) by rw [← hz.1.2.1]; rfl) hz.1.1 hk1 hk2 hk) (fun q9 N9 S9 hN9 hS9 => ?_)
    refine x_astore (q := 24) (ls' := [(5, _)]) [0] dL_hinge_22 rfl (by decide) rfl ?_
    refine x_iconst (q := 25) (bI true) dL_hinge_24 rfl (by decide) ?_
    exact x_iret rfl dL_hinge_25 ⟨(R.1 + 1, R.2 + 6), σ, f, h.thr hN9 hS9 hR1 hR2, hz, rfl, Nat.le_refl _, Nat.le_refl _, fun e => absurd (show true = false from e) (by decide)⟩
  · have e1 : (spHinge z k a b).1 = false := by unfold spHinge; rw [if_neg hk]; split <;> (first | rfl | (split <;> rfl))
    refine yX.of ?_
    refine x_aload (q := 2) dL_hinge_0 rfl rfl ?_
    refine xn_iconst (q := 3) 0 dL_hinge_2 rfl (by decide) ?_
    refine x_aload_n (q := 4) dL_hinge_3 rfl rfl ?_
    refine x_iload_n (q := 5) dL_hinge_4 rfl rfl ?_
    refine x_iload_n (q := 6) dL_hinge_5 rfl rfl ?_
    refine x_iload_n (q := 7) dL_hinge_6 rfl rfl ?_
    refine l_callC (As := [.int (iI k), .int (iI a), .int (bI b)]) (rest := [.int (nI 0), .ref ob]) (q := 10) h rfl imX8_hinge ivX8_hinge ilX8_hinge mwL_19 dL_hinge_7 rfl rfl rfl (Nat.le_of_ble_eq_true rfl) (w_hinge G l ad _ R (d + 6) σ z hz k a b hk ha1 ha2) (fun r9 σ9 M9 N9 S9 h9 hp => ?_)
    obtain ⟨rfl, hz9⟩ := hp
    refine x_if_eq (q := 13) 17 dL_hinge_10 (by decide) rfl (fun hc => ?_) (fun hc => ?_)
    · refine xn_lconst (q := 18) 0 dL_hinge_17 rfl (by decide) ?_
      refine x_last (q := 19) (n := 1) (f := f) dL_hinge_18 rfl h9.2.2.1 (vp_in_nI (by decide) (by decide)) ?_
      refine x_goto 26 dL_hinge_19 (by decide) ?_
      refine x_iconst (q := 27) (bI false) dL_hinge_26 rfl (by decide) ?_
      exact x_iret rfl dL_hinge_27 ⟨R, σ9, _, h9.out _, hz9, by rw [e1], by omega, by omega, fun _ => (updL0 _ _).trans (lB0 (bI_eq.mp hc))⟩
    · refine xn_lconst (q := 14) 1 dL_hinge_13 rfl (by decide) ?_
      refine x_goto 18 dL_hinge_14 (by decide) ?_
      refine x_last (q := 19) (n := 1) (f := f) dL_hinge_18 rfl h9.2.2.1 (vp_in_nI (by decide) (by decide)) ?_
      refine x_goto 26 dL_hinge_19 (by decide) ?_
      refine x_iconst (q := 27) (bI false) dL_hinge_26 rfl (by decide) ?_
      exact x_iret rfl dL_hinge_27 ⟨R, σ9, _, h9.out _, hz9, by rw [e1], by omega, by omega, fun _ => (updL0 _ _).trans (lB1 (bI_ne.mp hc))⟩
end
end XW4
