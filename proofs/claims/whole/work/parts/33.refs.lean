section XR1
/-- what changed lies in these fields, int arrays and long arrays -/
def onl (F A B : List Nat) (σ σ' : mS) : Prop := (∀ k, k ∉ F → σ'.1 k = σ.1 k) ∧ (∀ k, k ∉ A → σ'.2.1 k = σ.2.1 k) ∧ ∀ k, k ∉ B → σ'.2.2 k = σ.2.2 k
theorem onl.rfl' {F A B : List Nat} {σ : mS} : onl F A B σ σ := ⟨fun _ _ => rfl, fun _ _ => rfl, fun _ _ => rfl⟩
theorem onl.trans {F A B : List Nat} {σ σ' σ'' : mS} (h : onl F A B σ σ') (h2 : onl F A B σ' σ'') : onl F A B σ σ'' := ⟨fun k a => (h2.1 k a).trans (h.1 k a), fun k a => (h2.2.1 k a).trans (h.2.1 k a), fun k a => (h2.2.2 k a).trans (h.2.2 k a)⟩
theorem onl.mono {F A B F' A' B' : List Nat} {σ σ' : mS} (h : onl F A B σ σ') (f : ∀ k ∈ F, k ∈ F') (a : ∀ k ∈ A, k ∈ A') (b : ∀ k ∈ B, k ∈ B') : onl F' A' B' σ σ' := ⟨fun k z => h.1 k (fun y => z (f k y)), fun k z => h.2.1 k (fun y => z (a k y)), fun k z => h.2.2 k (fun y => z (b k y))⟩
theorem onl.fld {σ σ' : mS} {k : Nat} (h : ∀ i, i ≠ k → σ'.1 i = σ.1 i) (h2 : σ'.2 = σ.2) : onl [k] [] [] σ σ' := ⟨fun i hi => h i (fun e => hi (by rw [e]; exact List.mem_singleton.mpr rfl)), fun _ _ => by rw [h2], fun _ _ => by rw [h2]⟩
theorem onl.arr {σ σ' : mS} {k : Nat} (h1 : σ'.1 = σ.1) (h2 : σ'.2.2 = σ.2.2) (h : ∀ i, i ≠ k → σ'.2.1 i = σ.2.1 i) : onl [] [k] [] σ σ' := ⟨fun _ _ => by rw [h1], fun i hi => h i (fun e => hi (by rw [e]; exact List.mem_singleton.mpr rfl)), fun _ _ => by rw [h2]⟩
theorem onlyQ.onl {σ σ' : mS} (h : onlyQ σ σ') : onl [21, 22, 23, 25, 27] [14, 15, 16, 17, 18, 19, 28] [20, 24, 26] σ σ' :=
  ⟨fun k hk => by simp at hk; exact h.1 k hk.1 hk.2.1 hk.2.2.1 hk.2.2.2.1 hk.2.2.2.2, fun k hk => by simp at hk; exact h.2.1 k hk.1 hk.2.1 hk.2.2.1 hk.2.2.2.1 hk.2.2.2.2.1 hk.2.2.2.2.2.1 hk.2.2.2.2.2.2, fun k hk => by simp at hk; exact h.2.2 k hk.1 hk.2.1 hk.2.2⟩
theorem keeps.onl {rs : List Nat} {σ σ' : mS} (h : keeps rs σ σ') : onl [] [14, 15, 16] [] σ σ' :=
  ⟨fun _ _ => by rw [h.1], fun k hk => by simp at hk; exact h.2.2.1 k hk.1 hk.2.1 hk.2.2, fun _ _ => by rw [h.2.1]⟩
abbrev mT : Type := mCf × List Nat × List (Nat × Nat × Nat)
/-- the collected text -/
def Txt (σ : mS) (t : List Nat) : Prop := t.length ≤ 50 ∧ σ.1 2 = nI t.length ∧ (∀ i, i < t.length → σ.2.1 1 i = nI (t.getD i 0)) ∧ ∀ i, i < t.length → 32 ≤ t.getD i 0 ∧ t.getD i 0 ≤ 126
def okRow (c : mCf) (q : Nat × Nat × Nat) : Prop := (q.1 ≤ 2 ∧ q.2.1 < c.m ∧ q.2.2 ≤ 4) ∨ (q.1 = 3 ∧ q.2.1 ≤ c.m ∧ q.2.2 = 0)
/-- the rows that were asked for -/
def Rws (σ : mS) (c : mCf) (r : List (Nat × Nat × Nat)) : Prop := r.length ≤ 8 ∧ σ.1 10 = nI r.length ∧ ∀ i, i < r.length → σ.2.1 11 i = nI (r.getD i (0, 0, 0)).1 ∧ σ.2.1 12 i = nI (r.getD i (0, 0, 0)).2.1 ∧ σ.2.1 13 i = nI (r.getD i (0, 0, 0)).2.2 ∧ okRow c (r.getD i (0, 0, 0))
def RR (σ : mS) (z : mT) : Prop := Inv σ z.1 ∧ Txt σ z.2.1 ∧ Rws σ z.1 z.2.2
theorem Txt.on {F A B : List Nat} {σ σ' : mS} {t : List Nat} (h : Txt σ t) (ho : onl F A B σ σ') (h2 : 2 ∉ F) (h1 : 1 ∉ A) : Txt σ' t := ⟨h.1, (ho.1 2 h2).trans h.2.1, fun i hi => by rw [ho.2.1 1 h1]; exact h.2.2.1 i hi, h.2.2.2⟩
theorem Rws.on {F A B : List Nat} {σ σ' : mS} {c : mCf} {t : List (Nat × Nat × Nat)} (h : Rws σ c t) (ho : onl F A B σ σ') (h2 : 10 ∉ F) (h11 : 11 ∉ A) (h12 : 12 ∉ A) (h13 : 13 ∉ A) : Rws σ' c t := ⟨h.1, (ho.1 10 h2).trans h.2.1, fun i hi => by rw [ho.2.1 11 h11, ho.2.1 12 h12, ho.2.1 13 h13]; exact h.2.2 i hi⟩
theorem Cf.on {F A B : List Nat} {σ σ' : mS} {c : mCf} (h : Cf σ c) (ho : onl F A B σ σ') (h3 : 3 ∉ F) (h4 : 4 ∉ A) (h5 : 5 ∉ A) (h6 : 6 ∉ A) (h7 : 7 ∉ A) (h8 : 8 ∉ A) (h9 : 9 ∉ A) : Cf σ' c := by
  unfold Cf at *
  rw [ho.1 3 h3, ho.2.1 4 h4, ho.2.1 5 h5, ho.2.1 6 h6, ho.2.1 7 h7, ho.2.1 8 h8, ho.2.1 9 h9]
  exact h
theorem Cel.on {F A B : List Nat} {σ σ' : mS} {c : Nat} {v : Int} (h : Cel σ c v) (ho : onl F A B σ σ') (h17 : 17 ∉ A) (h18 : 18 ∉ A) (h19 : 19 ∉ A) : Cel σ' c v := by
  unfold Cel Num at *
  rw [ho.2.1 17 h17, ho.2.1 18 h18, ho.2.1 19 h19]
  exact h
theorem Mat.on {F A B : List Nat} {σ σ' : mS} {V : Nat → Nat → Int} (h : Mat σ V) (ho : onl F A B σ σ') (h17 : 17 ∉ A) (h18 : 18 ∉ A) (h19 : 19 ∉ A) : Mat σ' V := fun i j hi hj => (h i j hi hj).on ho h17 h18 h19
theorem Reg.on {F A B : List Nat} {σ σ' : mS} {r : Nat} {v : Int} (h : Reg σ r v) (ho : onl F A B σ σ') (h17 : 14 ∉ A) (h18 : 15 ∉ A) (h19 : 16 ∉ A) : Reg σ' r v := by
  unfold Reg at *
  rw [ho.2.1 14 h17, ho.2.1 15 h18, ho.2.1 16 h19]
  exact h
theorem Slv.on {F A B : List Nat} {σ σ' : mS} {c : mCf} (h : Slv σ c) (ho : onl F A B σ σ') (hF : ∀ k ∈ [23, 27], k ∉ F) (hA : ∀ k ∈ [28, 14, 15, 16, 17, 18, 19], k ∉ A) : Slv σ' c :=
  ⟨⟨(ho.1 23 (hF _ (by simp))).trans h.1.1, fun e => (h.1.2 e).eq (ho.1 27 (hF _ (by simp))) (ho.2.1 28 (hA _ (by simp)))⟩, fun e => ⟨(h.2 e).1.on ho (hA _ (by simp)) (hA _ (by simp)) (hA _ (by simp)), (h.2 e).2.on ho (hA _ (by simp)) (hA _ (by simp)) (hA _ (by simp))⟩⟩
/-- solved, kept while registers other than the tenth change -/
theorem Slv.keeps {rs : List Nat} {σ σ' : mS} {c : mCf} (h : Slv σ c) (hk : keeps rs σ σ') (h10 : 10 ∉ rs) : Slv σ' c :=
  ⟨⟨(hk.onl.1 23 (by decide)).trans h.1.1, fun e => (h.1.2 e).eq (hk.onl.1 27 (by decide)) (hk.onl.2.1 28 (by decide))⟩, fun e => ⟨(h.2 e).1.on hk.onl (by decide) (by decide) (by decide), hk.reg h10 (h.2 e).2⟩⟩
theorem Inv.fld {σ σ' : mS} {c : mCf} {k : Nat} (h : Inv σ c) (h1 : ∀ i, i ≠ k → σ'.1 i = σ.1 i) (h2 : σ'.2 = σ.2) (hk : k ≠ 3) (hk2 : k ≠ 22) (hk3 : k ≠ 23) (hk4 : k ≠ 27) : Inv σ' c := by
  have ho := onl.fld h1 h2
  refine ⟨h.1.on ho (by simp; omega) (by simp) (by simp) (by simp) (by simp) (by simp) (by simp), ?_⟩
  rcases h.2 with e | ⟨e, f⟩
  · exact .inl ((h1 22 (by omega)).trans e)
  · exact .inr ⟨(h1 22 (by omega)).trans e, f.on ho (by intro i hi; simp at hi ⊢; omega) (by intro i _; simp)⟩
theorem RR.code {σ σ' : mS} {z : mT} (h : RR σ z) (h1 : ∀ i, i ≠ 0 → σ'.1 i = σ.1 i) (h2 : σ'.2 = σ.2) : RR σ' z :=
  ⟨h.1.fld h1 h2 (by decide) (by decide) (by decide) (by decide), h.2.1.on (onl.fld h1 h2) (by decide) (by decide), h.2.2.on (onl.fld h1 h2) (by decide) (by decide) (by decide) (by decide)⟩
/-- solved, text and rows as they were -/
def RS (σ : mS) (z : mT) : Prop := Cf σ z.1 ∧ σ.1 22 = 1 ∧ Slv σ z.1 ∧ Txt σ z.2.1 ∧ Rws σ z.1 z.2.2
theorem RS.rr {σ : mS} {z : mT} (h : RS σ z) : RR σ z := ⟨⟨h.1, .inr ⟨h.2.1, h.2.2.1⟩⟩, h.2.2.2.1, h.2.2.2.2⟩
theorem RS.keeps {rs : List Nat} {σ σ' : mS} {z : mT} (h : RS σ z) (hk : keeps rs σ σ') (h10 : 10 ∉ rs) : RS σ' z :=
  ⟨h.1.on hk.onl (by decide) (by decide) (by decide) (by decide) (by decide) (by decide) (by decide), (hk.onl.1 22 (by decide)).trans h.2.1, h.2.2.1.keeps hk h10, h.2.2.2.1.on hk.onl (by decide) (by decide), h.2.2.2.2.on hk.onl (by decide) (by decide) (by decide) (by decide)⟩
theorem c_solveR (G : xG) (l : Launch) (o : Nat) (as : Nat → Nat) (M0 : xM) (N S : Nat) (d : Nat) (σ : mS) (z : mT) (h : RR σ z) (hok : slvOk z.1) : mC G l o as M0 N S YX9_solveAll (d + 5) [] σ (fun x σ' => x = none ∧ σ'.1 0 = σ.1 0 ∧ RS σ' z) :=
  (c_solveAll G l o as M0 N S d σ z.1 h.1 hok).mono (fun x σ' hp => by
    obtain ⟨h1, h2, h3, h4, h5⟩ := hp
    exact ⟨h1, h2.onl.1 0 (by decide), h3, h4, h5, h.2.1.on h2.onl (by decide) (by decide), h.2.2.on h2.onl (by decide) (by decide) (by decide) (by decide)⟩)
/-- what solve answers -/
def spSolve (c : mCf) : Nat := if looseB c = true then (lsN c (c.m + 1)).length else 0
def spLoose (c : mCf) (k : Int) : Int := if looseB c = true ∧ 0 ≤ k ∧ k < (lsN c (c.m + 1)).length then ((lsN c (c.m + 1)).getD k.toNat 0 : Nat) else -1
set_option maxRecDepth 100000 in
set_option maxHeartbeats 4000000 in
theorem c_solve (G : xG) (l : Launch) (o : Nat) (as : Nat → Nat) (M0 : xM) (N S : Nat) (d : Nat) (σ : mS) (z : mT) (hR : RR σ z) (hok : slvOk z.1) : mC G l o as M0 N S YX9_solve (d + 6) [] σ (fun x σ' => x = some (.int (nI (spSolve z.1))) ∧ RR σ' z) := by
  refine mC.of (ls := [(0, .ref o)]) (by decide) (Nat.le_of_ble_eq_true rfl) rfl fun M hM => ?_
  refine x_aload_n (q := 1) dX9_solve_0 rfl rfl ?_
  refine xn_iconst (q := 2) 0 dX9_solve_1 rfl (by decide) ?_
  refine m_putG (q := 5) hM 0 fwX9_97 (by decide) rfl rfl rfl dX9_solve_2 rfl rfl rfl (fun M σ2 a2 e2 b2 hM => ?_)
  refine x_aload_n (q := 6) dX9_solve_5 rfl rfl ?_
  refine m_call (q := 9) (As := []) hM imX9_solveAll ivX9_solveAll ilX9_solveAll mwX9_252 xciX9 dX9_solve_6 rfl rfl rfl (Nat.le_of_ble_eq_true rfl) ?_
  have hR2 := hR.code a2 b2
  refine (c_solveR G l o as M0 N S d σ2 z hR2 hok).mono (fun x σ9 hp => ?_)
  obtain ⟨rfl, z9, r9⟩ := hp
  intro M hM
  show xX G l _ (d + 6) _ _ _ _ M N S
  have h23 := r9.2.2.1.1.1
  refine x_aload_n (q := 10) dX9_solve_9 rfl rfl ?_
  refine m_get (q := 13) hM 23 fwX9_212 (by decide) dX9_solve_10 rfl rfl ?_
  rw [h23]
  refine x_if_eq (q := 16) 23 dX9_solve_13 (by decide) rfl (fun hc13 => ?_) (fun hc13 => ?_)
  · refine xn_iconst (q := 24) 0 dX9_solve_23 rfl (by decide) ?_
    exact x_iret rfl dX9_solve_24 (m_ret hM ⟨by unfold spSolve; rw [if_neg (by rw [bI_eq.mp hc13]; decide)], r9.rr⟩)
  · refine x_aload_n (q := 17) dX9_solve_16 rfl rfl ?_
    refine m_get (q := 20) hM 27 fwX9_245 (by decide) dX9_solve_17 rfl rfl ?_
    rw [(r9.2.2.1.1.2 (bI_ne.mp hc13)).1]
    refine x_goto 24 dX9_solve_20 (by decide) ?_
    exact x_iret rfl dX9_solve_24 (m_ret hM ⟨by unfold spSolve; rw [if_pos (bI_ne.mp hc13)], r9.rr⟩)
set_option maxRecDepth 100000 in
set_option maxHeartbeats 4000000 in
theorem c_loose (G : xG) (l : Launch) (o : Nat) (as : Nat → Nat) (M0 : xM) (N S : Nat) (d : Nat) (σ : mS) (z : mT) (hR : RR σ z) (hok : slvOk z.1) (k : Int) (hk1 : -2147483648 ≤ k) (hk2 : k < 2147483648) : mC G l o as M0 N S YX9_loose (d + 6) [.int (iI k)] σ (fun x σ' => x = some (.int (iI (spLoose z.1 k))) ∧ RR σ' z) := by
  have hl4 : (lsN z.1 (z.1.m + 1)).length ≤ 4 := Nat.le_trans (lsN_le _ _) (by have := hR.1.1.1.2.1; omega)
  refine mC.of (ls := [(0, .ref o), (1, .int (iI k))]) (by decide) (Nat.le_of_ble_eq_true rfl) rfl fun M hM => ?_
  refine x_aload_n (q := 1) dX9_loose_0 rfl rfl ?_
  refine xn_iconst (q := 2) 0 dX9_loose_1 rfl (by decide) ?_
  refine m_putG (q := 5) hM 0 fwX9_97 (by decide) rfl rfl rfl dX9_loose_2 rfl rfl rfl (fun M σ2 a2 e2 b2 hM => ?_)
  refine x_aload_n (q := 6) dX9_loose_5 rfl rfl ?_
  refine m_call (q := 9) (As := []) hM imX9_solveAll ivX9_solveAll ilX9_solveAll mwX9_252 xciX9 dX9_loose_6 rfl rfl rfl (Nat.le_of_ble_eq_true rfl) ?_
  have hR2 := hR.code a2 b2
  refine (c_solveR G l o as M0 N S d σ2 z hR2 hok).mono (fun x σ9 hp => ?_)
  obtain ⟨rfl, z9, r9⟩ := hp
  intro M hM
  show xX G l _ (d + 6) _ _ _ _ M N S
  have h23 := r9.2.2.1.1.1
  refine x_aload_n (q := 10) dX9_loose_9 rfl rfl ?_
  refine m_get (q := 13) hM 23 fwX9_212 (by decide) dX9_loose_10 rfl rfl ?_
  rw [h23]
  refine x_if_eq (q := 16) 37 dX9_loose_13 (by decide) rfl (fun hc13 => ?_) (fun hc13 => ?_)
  · refine x_iconst (q := 38) (-1) dX9_loose_37 rfl (by decide) ?_
    exact x_iret rfl dX9_loose_38 (m_ret hM ⟨by unfold spLoose; rw [if_neg (fun e => by rw [bI_eq.mp hc13] at e; exact absurd e.1 (by decide))]; rfl, r9.rr⟩)
  · refine x_iload_n (q := 17) dX9_loose_16 rfl rfl ?_
    refine xi_if_lt (q := 20) 37 dX9_loose_17 (by decide) rfl rfl (by omega) (by omega) (fun hc17 => ?_) (fun hc17 => ?_)
    · refine x_iconst (q := 38) (-1) dX9_loose_37 rfl (by decide) ?_
      exact x_iret rfl dX9_loose_38 (m_ret hM ⟨by unfold spLoose; rw [if_neg (fun e => by omega)]; rfl, r9.rr⟩)
    · refine x_iload_n (q := 21) dX9_loose_20 rfl rfl ?_
      refine x_aload_n (q := 22) dX9_loose_21 rfl rfl ?_
      refine m_get (q := 25) hM 27 fwX9_245 (by decide) dX9_loose_22 rfl rfl ?_
      rw [(r9.2.2.1.1.2 (bI_ne.mp hc13)).1]
      refine xi_icmp_ge (q := 28) 37 dX9_loose_25 (by decide) rfl rfl (nI_i _) (by omega) (by omega) (by omega) (by omega) (fun hc25 => ?_) (fun hc25 => ?_)
      · refine x_iconst (q := 38) (-1) dX9_loose_37 rfl (by decide) ?_
        exact x_iret rfl dX9_loose_38 (m_ret hM ⟨by unfold spLoose; rw [if_neg (fun e => by omega)]; rfl, r9.rr⟩)
      · refine x_aload_n (q := 29) dX9_loose_28 rfl rfl ?_
        refine m_get (q := 32) hM 28 fwX9_69 (by decide) dX9_loose_29 rfl rfl ?_
        refine x_iload_n (q := 33) dX9_loose_32 rfl rfl ?_
        rw [show iI k = nI k.toNat by rw [nI_i]; exact congrArg iI (by omega)]
        refine m_iald (q := 34) hM (n := 4) (by decide) dX9_loose_33 rfl (by omega) ?_
        rw [(r9.2.2.1.1.2 (bI_ne.mp hc13)).2 k.toNat (by omega)]
        refine x_goto 38 dX9_loose_34 (by decide) ?_
        exact x_iret rfl dX9_loose_38 (m_ret hM ⟨by unfold spLoose; rw [if_pos ⟨bI_ne.mp hc13, by omega, by omega⟩, nI_i], r9.rr⟩)
theorem getD_l {α : Type} {xs : List α} {v d : α} {i : Nat} (h : i < xs.length) : (xs ++ [v]).getD i d = xs.getD i d := by
  rw [List.getD_eq_getElem?_getD, List.getD_eq_getElem?_getD, List.getElem?_append_left h]
theorem getD_r {α : Type} {xs : List α} {v d : α} : (xs ++ [v]).getD xs.length d = v := by
  rw [List.getD_eq_getElem?_getD, List.getElem?_append_right (Nat.le_refl _), Nat.sub_self]; rfl
/-- what unit answers, and the text behind it -/
def spUnit (t : List Nat) (u : Int) : Bool × List Nat := if u < 32 ∨ 126 < u ∨ t.length = 50 then (false, t) else (true, t ++ [u.toNat])
set_option maxRecDepth 100000 in
set_option maxHeartbeats 4000000 in
theorem c_unit (G : xG) (l : Launch) (o : Nat) (as : Nat → Nat) (M0 : xM) (N S : Nat) (d : Nat) (σ : mS) (z : mT) (hR : RR σ z) (u : Int) (hk1 : -2147483648 ≤ u) (hk2 : u < 2147483648) : mC G l o as M0 N S YX9_unit (d + 1) [.int (iI u)] σ (fun x σ' => x = some (.int (bI (spUnit z.2.1 u).1)) ∧ RR σ' (z.1, (spUnit z.2.1 u).2, z.2.2)) := by
  have ht := hR.2.1
  refine mC.of (ls := [(0, .ref o), (1, .int (iI u))]) (by decide) (Nat.le_of_ble_eq_true rfl) rfl fun M hM => ?_
  refine x_aload_n (q := 1) dX9_unit_0 rfl rfl ?_
  refine xn_iconst (q := 2) 0 dX9_unit_1 rfl (by decide) ?_
  refine m_putG (q := 5) hM 0 fwX9_97 (by decide) rfl rfl rfl dX9_unit_2 rfl rfl rfl (fun M σ2 a2 e2 b2 hM => ?_)
  have h50 := ht.1
  have hl2 : σ2.1 2 = nI z.2.1.length := (a2 2 (by decide)).trans ht.2.1
  refine x_iload_n (q := 6) dX9_unit_5 rfl rfl ?_
  refine xn_bipush (q := 8) 32 dX9_unit_6 rfl (by decide) ?_
  refine xi_icmp_lt (q := 11) 26 dX9_unit_8 (by decide) rfl rfl (nI_i _) (by omega) (by omega) (by omega) (by omega) (fun hc8 => ?_) (fun hc8 => ?_)
  · refine xn_iconst (q := 27) 0 dX9_unit_26 rfl (by decide) ?_
    have e0 : spUnit z.2.1 u = (false, z.2.1) := by unfold spUnit; exact if_pos (by omega)
    rw [e0]
    exact x_zret rfl (by decide) dX9_unit_27 (m_ret hM ⟨rfl, hR.code a2 b2⟩)
  · refine x_iload_n (q := 12) dX9_unit_11 rfl rfl ?_
    refine xn_bipush (q := 14) 126 dX9_unit_12 rfl (by decide) ?_
    refine xi_icmp_gt (q := 17) 26 dX9_unit_14 (by decide) rfl rfl (nI_i _) (by omega) (by omega) (by omega) (by omega) (fun hc14 => ?_) (fun hc14 => ?_)
    · refine xn_iconst (q := 27) 0 dX9_unit_26 rfl (by decide) ?_
      have e0 : spUnit z.2.1 u = (false, z.2.1) := by unfold spUnit; exact if_pos (by omega)
      rw [e0]
      exact x_zret rfl (by decide) dX9_unit_27 (m_ret hM ⟨rfl, hR.code a2 b2⟩)
    · refine x_aload_n (q := 18) dX9_unit_17 rfl rfl ?_
      refine m_get (q := 21) hM 2 fwX9_255 (by decide) dX9_unit_18 rfl rfl ?_
      rw [hl2]
      refine xn_bipush (q := 23) 50 dX9_unit_21 rfl (by decide) ?_
      refine xn_icmp_ne (q := 26) 28 dX9_unit_23 (by decide) rfl (by omega) (by omega) (fun hc23 => ?_) (fun hc23 => ?_)
      · refine x_aload_n (q := 29) dX9_unit_28 rfl rfl ?_
        refine m_get (q := 32) hM 1 fwX9_7 (by decide) dX9_unit_29 rfl rfl ?_
        refine x_aload_n (q := 33) dX9_unit_32 rfl rfl ?_
        refine m_get (q := 36) hM 2 fwX9_255 (by decide) dX9_unit_33 rfl rfl ?_
        rw [hl2]
        refine x_iload_n (q := 37) dX9_unit_36 rfl rfl ?_
        refine m_iastG (q := 38) hM (n := 50) (by decide) dX9_unit_37 rfl (by omega) (fun M σ37 a37 b37 c37 e37 f37 hM => ?_)
        refine x_aload_n (q := 39) dX9_unit_38 rfl rfl ?_
        refine x_dup (q := 40) dX9_unit_39 rfl rfl ?_
        refine m_get (q := 43) hM 2 fwX9_255 (by decide) dX9_unit_40 rfl rfl ?_
        rw [show σ37.1 2 = nI z.2.1.length by rw [a37]; exact hl2]
        refine xn_iconst (q := 44) 1 dX9_unit_43 rfl (by decide) ?_
        refine xn_iadd (q := 45) dX9_unit_44 rfl ?_
        refine m_putG (q := 48) hM 2 fwX9_255 (by decide) rfl rfl rfl dX9_unit_45 rfl rfl rfl (fun M σ45 a45 e45 b45 hM => ?_)
        refine xn_iconst (q := 49) 1 dX9_unit_48 rfl (by decide) ?_
        have e0 : spUnit z.2.1 u = (true, z.2.1 ++ [u.toNat]) := by unfold spUnit; exact if_neg (by omega)
        rw [e0]
        have hR2 := hR.code a2 b2
        have o37 := onl.arr a37 b37 c37
        have o45 := onl.fld a45 b45
        have oo : onl [2] [1] [] σ2 σ45 := (o37.mono (by simp) (by simp) (by simp)).trans (o45.mono (by simp) (by simp) (by simp))
        have hl : (z.2.1 ++ [u.toNat]).length = z.2.1.length + 1 := by simp
        refine x_zret rfl (by decide) dX9_unit_49 (m_ret hM ⟨rfl, ⟨hR2.1.1.on oo (by decide) (by decide) (by decide) (by decide) (by decide) (by decide) (by decide), ?_⟩, ⟨by rw [hl]; omega, ?_, fun i hi => ?_, fun i hi => ?_⟩, hR2.2.2.on oo (by decide) (by decide) (by decide) (by decide)⟩)
        · rcases hR2.1.2 with e | ⟨e, f⟩
          · exact .inl ((oo.1 22 (by decide)).trans e)
          · exact .inr ⟨(oo.1 22 (by decide)).trans e, f.on oo (by decide) (by decide)⟩
        · rw [e45]; exact congrArg nI hl.symm
        · replace hi : i < z.2.1.length + 1 := by rw [← hl]; exact hi
          rw [show σ45.2.1 1 = σ37.2.1 1 by rw [b45]]
          rcases Nat.lt_or_ge i z.2.1.length with h | h
          · rw [f37 i (by omega), show (z.2.1 ++ [u.toNat]).getD i 0 = z.2.1.getD i 0 from getD_l h]; exact hR2.2.1.2.2.1 i h
          · obtain rfl : i = z.2.1.length := by omega
            rw [e37, show (z.2.1 ++ [u.toNat]).getD z.2.1.length 0 = u.toNat from getD_r, nI_i]; exact congrArg iI (by omega)
        · replace hi : i < z.2.1.length + 1 := by rw [← hl]; exact hi
          rcases Nat.lt_or_ge i z.2.1.length with h | h
          · rw [show (z.2.1 ++ [u.toNat]).getD i 0 = z.2.1.getD i 0 from getD_l h]; exact ht.2.2.2 i h
          · obtain rfl : i = z.2.1.length := by omega
            rw [show (z.2.1 ++ [u.toNat]).getD z.2.1.length 0 = u.toNat from getD_r]; omega
      · refine xn_iconst (q := 27) 0 dX9_unit_26 rfl (by decide) ?_
        have e0 : spUnit z.2.1 u = (false, z.2.1) := by unfold spUnit; exact if_pos (by omega)
        rw [e0]
        exact x_zret rfl (by decide) dX9_unit_27 (m_ret hM ⟨rfl, hR.code a2 b2⟩)
end XR1
