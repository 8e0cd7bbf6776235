section XI1
def nbk (M0 M : xM) (a N : Nat) (obj : xE) (L : List xE) : Prop := M a = some obj ∧ (∀ b, b < N → b ≠ a → M b = M0 b) ∧ ∀ i, i < L.length → M (N + i) = L[i]?
theorem nbk.arr {M0 M : xM} {a N k : Nat} {obj : xE} {L : List xE} (h : nbk M0 M a N obj L) (ha : a < N) (hk : L.length = k) (e : xE) : nbk M0 (xup M (N + k) e) a N obj (L ++ [e]) := by
  refine ⟨by rw [xup_n (by omega)]; exact h.1, fun b hb hne => by rw [xup_n (by omega)]; exact h.2.1 b hb hne, fun i hi => ?_⟩
  rw [List.length_append] at hi
  have hi : i < L.length + 1 := hi
  by_cases g : i = k
  · rw [g, xup_s, List.getElem?_append_right (by omega), show k - L.length = 0 by omega]; rfl
  · rw [xup_n (by omega), h.2.2 i (by omega), List.getElem?_append_left (by omega)]
theorem nbk.put {M0 M : xM} {a N : Nat} {obj : xE} {L : List xE} (h : nbk M0 M a N obj L) (ha : a < N) (e : xE) : nbk M0 (xup M a e) a N e L :=
  ⟨xup_s _ _ _, fun b hb hne => by rw [xup_n hne]; exact h.2.1 b hb hne, fun i hi => by rw [xup_n (by omega)]; exact h.2.2 i hi⟩
theorem nbk.set {M0 M : xM} {a N : Nat} {obj : xE} {L : List xE} (h : nbk M0 M a N obj L) (ha : a < N) (i : Nat) (hi : i < L.length) (e : xE) : nbk M0 (xup M (N + i) e) a N obj (L.set i e) := by
  refine ⟨by rw [xup_n (by omega)]; exact h.1, fun b hb hne => by rw [xup_n (by omega)]; exact h.2.1 b hb hne, fun j hj => ?_⟩
  rw [List.length_set] at hj
  by_cases g : j = i
  · rw [g, xup_s, List.getElem?_set_self hi]
  · rw [xup_n (by omega), h.2.2 j hj, List.getElem?_set_ne (Ne.symm g)]
theorem nbk.sub {M0 M M' : xM} {a N k : Nat} {obj e0 cobj : xE} {L cL : List xE} (h : nbk M0 M a N obj L) (ha : a < N) (hk : L.length = k) (h' : nbk (xup M (N + k) e0) M' (N + k) (N + k + 1) cobj cL) : nbk M0 M' a N obj (L ++ cobj :: cL) := by
  have old : ∀ b, b < N + k → M' b = M b := fun b hb => by rw [h'.2.1 b (by omega) (by omega), xup_n (by omega)]
  refine ⟨by rw [old a (by omega)]; exact h.1, fun b hb hne => by rw [old b (by omega)]; exact h.2.1 b hb hne, fun i hi => ?_⟩
  rw [List.length_append, List.length_cons] at hi
  by_cases g : i < k
  · rw [old _ (by omega), h.2.2 i (by omega), List.getElem?_append_left (by omega)]
  · rw [List.getElem?_append_right (by omega)]
    by_cases g2 : i = k
    · rw [g2, h'.1, show k - L.length = 0 by omega]; rfl
    · have := h'.2.2 (i - k - 1) (by omega)
      rw [show N + k + 1 + (i - k - 1) = N + i by omega] at this
      rw [this, show i - L.length = (i - k - 1) + 1 by omega, List.getElem?_cons_succ]
theorem nbk.at {M0 M : xM} {a N : Nat} {obj : xE} {L : List xE} (h : nbk M0 M a N obj L) (i : Nat) {e : xE} (he : L[i]? = some e) : M (N + i) = some e := by
  rw [h.2.2 i (by obtain ⟨h1, -⟩ := List.getElem?_eq_some_iff.mp he; exact h1)]; exact he
theorem nbk0 {M : xM} {a N : Nat} {obj : xE} (h : M a = some obj) : nbk M M a N obj [] := ⟨h, fun _ _ _ => rfl, fun i hi => absurd (show i < 0 from hi) (by omega)⟩
abbrev iaZ (n : Nat) : xE := .inl (.int, n, .inl (fun _ => 0))
abbrev zaZ (n : Nat) : xE := .inl (.boolean, n, .inl (fun _ => 0))
abbrev laZ (n : Nat) : xE := .inl (.long, n, .inr (.inl (fun _ => 0)))
abbrev bgZ (x : Nat) : xE := .inr (5, [.int 0, .int 0, .ref x])
def oneF : Nat → Int32 := upd (fun _ => 0) (nI 0).toNatClampNeg (vp_nar .boolean (nI 1))
def oneI : Nat → Int32 := upd (fun _ => 0) (nI 0).toNatClampNeg (nI 1)
set_option maxRecDepth 100000 in
set_option maxHeartbeats 4000000 in
theorem k_X2 (G : xG) (l : Launch) (d : Nat) (M0 : xM) (N S a : Nat)  (hM : M0 a = some (.inr (5, [.int 0, .int 0, .null]))) (ha : a < N) (hN : N + 1 ≤ G.2.2.2.2.1) (hS : S + 16 ≤ G.2.2.2.2.2) : xC G l YX2_init (d + 1) [.ref a] M0 N S (fun r M N' S' => r = none ∧ N' = N + 1 ∧ S' = S + 16 ∧ nbk M0 M a N (.inr (5, [.int 0, .int 0, .ref (N)])) [iaZ 16]) := by
  refine xC.of (ls := [(0, .ref a)]) (by decide) (Nat.le_of_ble_eq_true rfl) rfl ?_
  have hk : nbk M0 M0 a N (.inr (5, [.int 0, .int 0, .null])) [] := nbk0 hM
  suffices h : ∀ M : xM, nbk M0 M a N (.inr (5, [.int 0, .int 0, .null])) [] → xX G l YX2_init (d + 1) _ 0 [(0, .ref a)] [] M N S from h M0 hk
  clear hk; intro M hk
  refine x_aload_n (q := 1) dX2_init_0 rfl rfl ?_
  refine x_objInit (q := 4) owX2_1 oi1 oi2 dX2_init_1 rfl (Nat.le_of_ble_eq_true rfl) ?_
  refine x_aload_n (q := 5) dX2_init_4 rfl rfl ?_
  refine xn_bipush (q := 7) 16 dX2_init_5 rfl (by decide) ?_
  refine x_newa (q := 9) (at0 := .int) (ty := .int) (n := 16) (a0 := (16, .inl (fun _ => 0))) 0 rfl rfl (fun C h => by cases h) ac_int (fun cA => rfl) (by decide) (by decide) (by decide) dX2_init_7 rfl (by omega) (by omega) (fun _ => ?_)
  have hk : nbk M0 (xup M (N) (iaZ 16)) a N (.inr (5, [.int 0, .int 0, .null])) [iaZ 16] := nbk.arr hk ha rfl _
  generalize xup M (N) _ = M at hk ⊢
  show xX G l _ _ _ 9 _ _ M (N + 1) (S + 16)
  refine x_put (q := 12) (v := .ref (N)) (ty := .array .int) xclX2 2 fwX2_9 (by decide) rfl dX2_init_9 rfl (by decide +kernel) rfl rfl (Nat.le_of_ble_eq_true rfl) hk.1 ?_
  have hk : nbk M0 (xup M a (.inr (5, [.int 0, .int 0, .ref (N)]))) a N (.inr (5, [.int 0, .int 0, .ref (N)])) [iaZ 16] := nbk.put hk ha _
  show xX G l _ _ _ 12 _ _ (xup M a (.inr (5, [.int 0, .int 0, .ref (N)]))) _ _
  generalize xup M a _ = M at hk ⊢
  exact x_vret rfl dX2_init_12 ⟨rfl, rfl, rfl, hk⟩
set_option maxRecDepth 100000 in
set_option maxHeartbeats 4000000 in
theorem k_X7 (G : xG) (l : Launch) (d : Nat) (M0 : xM) (N S a : Nat)  (hM : M0 a = some (.inr (10, [.null, .int 0, .int 0]))) (ha : a < N) (hN : N + 1 ≤ G.2.2.2.2.1) (hS : S + 50 ≤ G.2.2.2.2.2) : xC G l YX7_init (d + 1) [.ref a] M0 N S (fun r M N' S' => r = none ∧ N' = N + 1 ∧ S' = S + 50 ∧ nbk M0 M a N (.inr (10, [.ref (N), .int 0, .int 0])) [iaZ 50]) := by
  refine xC.of (ls := [(0, .ref a)]) (by decide) (Nat.le_of_ble_eq_true rfl) rfl ?_
  have hk : nbk M0 M0 a N (.inr (10, [.null, .int 0, .int 0])) [] := nbk0 hM
  suffices h : ∀ M : xM, nbk M0 M a N (.inr (10, [.null, .int 0, .int 0])) [] → xX G l YX7_init (d + 1) _ 0 [(0, .ref a)] [] M N S from h M0 hk
  clear hk; intro M hk
  refine x_aload_n (q := 1) dX7_init_0 rfl rfl ?_
  refine x_objInit (q := 4) owX7_1 oi1 oi2 dX7_init_1 rfl (Nat.le_of_ble_eq_true rfl) ?_
  refine x_aload_n (q := 5) dX7_init_4 rfl rfl ?_
  refine xn_bipush (q := 7) 50 dX7_init_5 rfl (by decide) ?_
  refine x_newa (q := 9) (at0 := .int) (ty := .int) (n := 50) (a0 := (50, .inl (fun _ => 0))) 0 rfl rfl (fun C h => by cases h) ac_int (fun cA => rfl) (by decide) (by decide) (by decide) dX7_init_7 rfl (by omega) (by omega) (fun _ => ?_)
  have hk : nbk M0 (xup M (N) (iaZ 50)) a N (.inr (10, [.null, .int 0, .int 0])) [iaZ 50] := nbk.arr hk ha rfl _
  generalize xup M (N) _ = M at hk ⊢
  show xX G l _ _ _ 9 _ _ M (N + 1) (S + 50)
  refine x_putF (q := 12) (v := .ref (N)) (ty := .array .int) xclX7 0 fwX7_9 (by decide) rfl rfl rfl dX7_init_9 rfl (by decide +kernel) rfl rfl (Nat.le_of_ble_eq_true rfl) hk.1 ?_
  have hk : nbk M0 (xup M a (.inr (10, [.ref (N), .int 0, .int 0]))) a N (.inr (10, [.ref (N), .int 0, .int 0])) [iaZ 50] := nbk.put hk ha _
  show xX G l _ _ _ 12 _ _ (xup M a (.inr (10, [.ref (N), .int 0, .int 0]))) _ _
  generalize xup M a _ = M at hk ⊢
  exact x_vret rfl dX7_init_12 ⟨rfl, rfl, rfl, hk⟩
set_option maxRecDepth 100000 in
set_option maxHeartbeats 4000000 in
theorem k_X1 (G : xG) (l : Launch) (d : Nat) (M0 : xM) (N S a : Nat)  (hM : M0 a = some (.inr (4, [.null, .null, .null, .null, .null, .null, .int 0]))) (ha : a < N) (hN : N + 6 ≤ G.2.2.2.2.1) (hS : S + 24 ≤ G.2.2.2.2.2) : xC G l YX1_init (d + 1) [.ref a] M0 N S (fun r M N' S' => r = none ∧ N' = N + 6 ∧ S' = S + 24 ∧ ∃ f0 f1 : Nat → Int64, (∀ j, j < 3 → f0 j = lN 1) ∧ (∀ j, j < 3 → f1 j = lN 1) ∧ nbk M0 M a N (.inr (4, [.ref (N), .ref (N + 1), .ref (N + 2), .ref (N + 3), .ref (N + 4), .ref (N + 5), .int (nI 1)])) [.inl (.long, 3, .inr (.inl f0)), .inl (.long, 3, .inr (.inl f1)), zaZ 6, .inl (.boolean, 4, .inl oneF), .inl (.boolean, 4, .inl oneF), laZ 4]) := by
  refine xC.of (ls := [(0, .ref a)]) (by decide) (Nat.le_of_ble_eq_true rfl) rfl ?_
  have hk : nbk M0 M0 a N (.inr (4, [.null, .null, .null, .null, .null, .null, .int 0])) [] := nbk0 hM
  suffices h : ∀ M : xM, nbk M0 M a N (.inr (4, [.null, .null, .null, .null, .null, .null, .int 0])) [] → xX G l YX1_init (d + 1) _ 0 [(0, .ref a)] [] M N S from h M0 hk
  clear hk; intro M hk
  refine x_aload_n (q := 1) dX1_init_0 rfl rfl ?_
  refine x_objInit (q := 4) owX1_1 oi1 oi2 dX1_init_1 rfl (Nat.le_of_ble_eq_true rfl) ?_
  refine x_aload_n (q := 5) dX1_init_4 rfl rfl ?_
  refine xn_iconst (q := 6) 3 dX1_init_5 rfl (by decide) ?_
  refine x_newa (q := 8) (at0 := .long) (ty := .long) (n := 3) (a0 := (3, .inr (.inl (fun _ => 0)))) 1 rfl rfl (fun C h => by cases h) ac_long (fun cA => rfl) (by decide) (by decide) (by decide) dX1_init_6 rfl (by omega) (by omega) (fun _ => ?_)
  have hk : nbk M0 (xup M (N) (laZ 3)) a N (.inr (4, [.null, .null, .null, .null, .null, .null, .int 0])) [laZ 3] := nbk.arr hk ha rfl _
  generalize xup M (N) _ = M at hk ⊢
  show xX G l _ _ _ 8 _ _ M (N + 1) (S + 3)
  refine x_putF (q := 11) (v := .ref (N)) (ty := .array .long) xclX1 0 fwX1_9 (by decide) rfl rfl rfl dX1_init_8 rfl (by decide +kernel) rfl rfl (Nat.le_of_ble_eq_true rfl) hk.1 ?_
  have hk : nbk M0 (xup M a (.inr (4, [.ref (N), .null, .null, .null, .null, .null, .int 0]))) a N (.inr (4, [.ref (N), .null, .null, .null, .null, .null, .int 0])) [laZ 3] := nbk.put hk ha _
  show xX G l _ _ _ 11 _ _ (xup M a (.inr (4, [.ref (N), .null, .null, .null, .null, .null, .int 0]))) _ _
  generalize xup M a _ = M at hk ⊢
  refine x_aload_n (q := 12) dX1_init_11 rfl rfl ?_
  refine xn_iconst (q := 13) 3 dX1_init_12 rfl (by decide) ?_
  refine x_newa (q := 15) (at0 := .long) (ty := .long) (n := 3) (a0 := (3, .inr (.inl (fun _ => 0)))) 1 rfl rfl (fun C h => by cases h) ac_long (fun cA => rfl) (by decide) (by decide) (by decide) dX1_init_13 rfl (by omega) (by omega) (fun _ => ?_)
  have hk : nbk M0 (xup M (N + 1) (laZ 3)) a N (.inr (4, [.ref (N), .null, .null, .null, .null, .null, .int 0])) [laZ 3, laZ 3] := nbk.arr hk ha rfl _
  generalize xup M (N + 1) _ = M at hk ⊢
  show xX G l _ _ _ 15 _ _ M (N + 2) (S + 6)
  refine x_putF (q := 18) (v := .ref (N + 1)) (ty := .array .long) xclX1 1 fwX1_13 (by decide) rfl rfl rfl dX1_init_15 rfl (by decide +kernel) rfl rfl (Nat.le_of_ble_eq_true rfl) hk.1 ?_
  have hk : nbk M0 (xup M a (.inr (4, [.ref (N), .ref (N + 1), .null, .null, .null, .null, .int 0]))) a N (.inr (4, [.ref (N), .ref (N + 1), .null, .null, .null, .null, .int 0])) [laZ 3, laZ 3] := nbk.put hk ha _
  show xX G l _ _ _ 18 _ _ (xup M a (.inr (4, [.ref (N), .ref (N + 1), .null, .null, .null, .null, .int 0]))) _ _
  generalize xup M a _ = M at hk ⊢
  refine x_aload_n (q := 19) dX1_init_18 rfl rfl ?_
  refine xn_bipush (q := 21) 6 dX1_init_19 rfl (by decide) ?_
  refine x_newa (q := 23) (at0 := .boolean) (ty := .boolean) (n := 6) (a0 := (6, .inl (fun _ => 0))) 2 rfl rfl (fun C h => by cases h) ac_boolean (fun cA => rfl) (by decide) (by decide) (by decide) dX1_init_21 rfl (by omega) (by omega) (fun _ => ?_)
  have hk : nbk M0 (xup M (N + 2) (zaZ 6)) a N (.inr (4, [.ref (N), .ref (N + 1), .null, .null, .null, .null, .int 0])) [laZ 3, laZ 3, zaZ 6] := nbk.arr hk ha rfl _
  generalize xup M (N + 2) _ = M at hk ⊢
  show xX G l _ _ _ 23 _ _ M (N + 3) (S + 12)
  refine x_putF (q := 26) (v := .ref (N + 2)) (ty := .array .boolean) xclX1 2 fwX1_16 (by decide) rfl rfl rfl dX1_init_23 rfl (by decide +kernel) rfl rfl (Nat.le_of_ble_eq_true rfl) hk.1 ?_
  have hk : nbk M0 (xup M a (.inr (4, [.ref (N), .ref (N + 1), .ref (N + 2), .null, .null, .null, .int 0]))) a N (.inr (4, [.ref (N), .ref (N + 1), .ref (N + 2), .null, .null, .null, .int 0])) [laZ 3, laZ 3, zaZ 6] := nbk.put hk ha _
  show xX G l _ _ _ 26 _ _ (xup M a (.inr (4, [.ref (N), .ref (N + 1), .ref (N + 2), .null, .null, .null, .int 0]))) _ _
  generalize xup M a _ = M at hk ⊢
  refine x_aload_n (q := 27) dX1_init_26 rfl rfl ?_
  refine xn_iconst (q := 28) 4 dX1_init_27 rfl (by decide) ?_
  refine x_newa (q := 30) (at0 := .boolean) (ty := .boolean) (n := 4) (a0 := (4, .inl (fun _ => 0))) 2 rfl rfl (fun C h => by cases h) ac_boolean (fun cA => rfl) (by decide) (by decide) (by decide) dX1_init_28 rfl (by omega) (by omega) (fun _ => ?_)
  have hk : nbk M0 (xup M (N + 3) (zaZ 4)) a N (.inr (4, [.ref (N), .ref (N + 1), .ref (N + 2), .null, .null, .null, .int 0])) [laZ 3, laZ 3, zaZ 6, zaZ 4] := nbk.arr hk ha rfl _
  generalize xup M (N + 3) _ = M at hk ⊢
  show xX G l _ _ _ 30 _ _ M (N + 4) (S + 16)
  refine x_putF (q := 33) (v := .ref (N + 3)) (ty := .array .boolean) xclX1 3 fwX1_20 (by decide) rfl rfl rfl dX1_init_30 rfl (by decide +kernel) rfl rfl (Nat.le_of_ble_eq_true rfl) hk.1 ?_
  have hk : nbk M0 (xup M a (.inr (4, [.ref (N), .ref (N + 1), .ref (N + 2), .ref (N + 3), .null, .null, .int 0]))) a N (.inr (4, [.ref (N), .ref (N + 1), .ref (N + 2), .ref (N + 3), .null, .null, .int 0])) [laZ 3, laZ 3, zaZ 6, zaZ 4] := nbk.put hk ha _
  show xX G l _ _ _ 33 _ _ (xup M a (.inr (4, [.ref (N), .ref (N + 1), .ref (N + 2), .ref (N + 3), .null, .null, .int 0]))) _ _
  generalize xup M a _ = M at hk ⊢
  refine x_aload_n (q := 34) dX1_init_33 rfl rfl ?_
  refine xn_iconst (q := 35) 4 dX1_init_34 rfl (by decide) ?_
  refine x_newa (q := 37) (at0 := .boolean) (ty := .boolean) (n := 4) (a0 := (4, .inl (fun _ => 0))) 2 rfl rfl (fun C h => by cases h) ac_boolean (fun cA => rfl) (by decide) (by decide) (by decide) dX1_init_35 rfl (by omega) (by omega) (fun _ => ?_)
  have hk : nbk M0 (xup M (N + 4) (zaZ 4)) a N (.inr (4, [.ref (N), .ref (N + 1), .ref (N + 2), .ref (N + 3), .null, .null, .int 0])) [laZ 3, laZ 3, zaZ 6, zaZ 4, zaZ 4] := nbk.arr hk ha rfl _
  generalize xup M (N + 4) _ = M at hk ⊢
  show xX G l _ _ _ 37 _ _ M (N + 5) (S + 20)
  refine x_putF (q := 40) (v := .ref (N + 4)) (ty := .array .boolean) xclX1 4 fwX1_23 (by decide) rfl rfl rfl dX1_init_37 rfl (by decide +kernel) rfl rfl (Nat.le_of_ble_eq_true rfl) hk.1 ?_
  have hk : nbk M0 (xup M a (.inr (4, [.ref (N), .ref (N + 1), .ref (N + 2), .ref (N + 3), .ref (N + 4), .null, .int 0]))) a N (.inr (4, [.ref (N), .ref (N + 1), .ref (N + 2), .ref (N + 3), .ref (N + 4), .null, .int 0])) [laZ 3, laZ 3, zaZ 6, zaZ 4, zaZ 4] := nbk.put hk ha _
  show xX G l _ _ _ 40 _ _ (xup M a (.inr (4, [.ref (N), .ref (N + 1), .ref (N + 2), .ref (N + 3), .ref (N + 4), .null, .int 0]))) _ _
  generalize xup M a _ = M at hk ⊢
  refine x_aload_n (q := 41) dX1_init_40 rfl rfl ?_
  refine xn_iconst (q := 42) 4 dX1_init_41 rfl (by decide) ?_
  refine x_newa (q := 44) (at0 := .long) (ty := .long) (n := 4) (a0 := (4, .inr (.inl (fun _ => 0)))) 1 rfl rfl (fun C h => by cases h) ac_long (fun cA => rfl) (by decide) (by decide) (by decide) dX1_init_42 rfl (by omega) (by omega) (fun _ => ?_)
  have hk : nbk M0 (xup M (N + 5) (laZ 4)) a N (.inr (4, [.ref (N), .ref (N + 1), .ref (N + 2), .ref (N + 3), .ref (N + 4), .null, .int 0])) [laZ 3, laZ 3, zaZ 6, zaZ 4, zaZ 4, laZ 4] := nbk.arr hk ha rfl _
  generalize xup M (N + 5) _ = M at hk ⊢
  show xX G l _ _ _ 44 _ _ M (N + 6) (S + 24)
  refine x_putF (q := 47) (v := .ref (N + 5)) (ty := .array .long) xclX1 5 fwX1_26 (by decide) rfl rfl rfl dX1_init_44 rfl (by decide +kernel) rfl rfl (Nat.le_of_ble_eq_true rfl) hk.1 ?_
  have hk : nbk M0 (xup M a (.inr (4, [.ref (N), .ref (N + 1), .ref (N + 2), .ref (N + 3), .ref (N + 4), .ref (N + 5), .int 0]))) a N (.inr (4, [.ref (N), .ref (N + 1), .ref (N + 2), .ref (N + 3), .ref (N + 4), .ref (N + 5), .int 0])) [laZ 3, laZ 3, zaZ 6, zaZ 4, zaZ 4, laZ 4] := nbk.put hk ha _
  show xX G l _ _ _ 47 _ _ (xup M a (.inr (4, [.ref (N), .ref (N + 1), .ref (N + 2), .ref (N + 3), .ref (N + 4), .ref (N + 5), .int 0]))) _ _
  generalize xup M a _ = M at hk ⊢
  refine x_aload_n (q := 48) dX1_init_47 rfl rfl ?_
  refine x_get (q := 51) xclX1 0 fwX1_9 (by decide) dX1_init_48 rfl hk.1 rfl ?_
  refine xn_lconst (q := 52) 1 dX1_init_51 rfl (by decide) ?_
  refine x_callS (q := 55) (As := [.ref (N), .long (lN 1)]) imJ7_fill_d0a16 isJ7_fill_d0a16 mwX1_29 dX1_init_52 rfl rfl rfl (Nat.le_of_ble_eq_true rfl) ?_
  refine (j_fillL G l _ M _ _ (N) 3 (fun _ => 0) (lN 1) (by decide) (nbk.at hk 0 rfl)).mono (fun r9 M9 N9 S9 hp => ?_)
  obtain ⟨rfl, rfl, rfl, f0, hf0, rfl⟩ := hp
  have hk : nbk M0 (xup M (N) (.inl (.long, 3, .inr (.inl f0)))) a N (.inr (4, [.ref (N), .ref (N + 1), .ref (N + 2), .ref (N + 3), .ref (N + 4), .ref (N + 5), .int 0])) [.inl (.long, 3, .inr (.inl f0)), laZ 3, zaZ 6, zaZ 4, zaZ 4, laZ 4] := nbk.set hk ha 0 (Nat.le_of_ble_eq_true rfl) _
  generalize xup M (N) _ = M at hk ⊢
  show xX G l _ _ _ 55 _ _ M (N + 6) (S + 24)
  refine x_aload_n (q := 56) dX1_init_55 rfl rfl ?_
  refine x_get (q := 59) xclX1 1 fwX1_13 (by decide) dX1_init_56 rfl hk.1 rfl ?_
  refine xn_lconst (q := 60) 1 dX1_init_59 rfl (by decide) ?_
  refine x_callS (q := 63) (As := [.ref (N + 1), .long (lN 1)]) imJ7_fill_d0a16 isJ7_fill_d0a16 mwX1_29 dX1_init_60 rfl rfl rfl (Nat.le_of_ble_eq_true rfl) ?_
  refine (j_fillL G l _ M _ _ (N + 1) 3 (fun _ => 0) (lN 1) (by decide) (nbk.at hk 1 rfl)).mono (fun r9 M9 N9 S9 hp => ?_)
  obtain ⟨rfl, rfl, rfl, f1, hf1, rfl⟩ := hp
  have hk : nbk M0 (xup M (N + 1) (.inl (.long, 3, .inr (.inl f1)))) a N (.inr (4, [.ref (N), .ref (N + 1), .ref (N + 2), .ref (N + 3), .ref (N + 4), .ref (N + 5), .int 0])) [.inl (.long, 3, .inr (.inl f0)), .inl (.long, 3, .inr (.inl f1)), zaZ 6, zaZ 4, zaZ 4, laZ 4] := nbk.set hk ha 1 (Nat.le_of_ble_eq_true rfl) _
  generalize xup M (N + 1) _ = M at hk ⊢
  show xX G l _ _ _ 63 _ _ M (N + 6) (S + 24)
  refine x_aload_n (q := 64) dX1_init_63 rfl rfl ?_
  refine x_get (q := 67) xclX1 3 fwX1_20 (by decide) dX1_init_64 rfl hk.1 rfl ?_
  refine xn_iconst (q := 68) 0 dX1_init_67 rfl (by decide) ?_
  refine xn_iconst (q := 69) 1 dX1_init_68 rfl (by decide) ?_
  refine x_zast (q := 70) dX1_init_69 rfl (nbk.at hk 3 rfl) (vp_in_nI (by decide) (by decide)) ?_
  have hk : nbk M0 (xup M (N + 3) (.inl (.boolean, 4, .inl oneF))) a N (.inr (4, [.ref (N), .ref (N + 1), .ref (N + 2), .ref (N + 3), .ref (N + 4), .ref (N + 5), .int 0])) [.inl (.long, 3, .inr (.inl f0)), .inl (.long, 3, .inr (.inl f1)), zaZ 6, .inl (.boolean, 4, .inl oneF), zaZ 4, laZ 4] := nbk.set hk ha 3 (Nat.le_of_ble_eq_true rfl) _
  show xX G l _ _ _ 70 _ _ (xup M (N + 3) (.inl (.boolean, 4, .inl oneF))) _ _
  generalize xup M (N + 3) _ = M at hk ⊢
  refine x_aload_n (q := 71) dX1_init_70 rfl rfl ?_
  refine x_get (q := 74) xclX1 4 fwX1_23 (by decide) dX1_init_71 rfl hk.1 rfl ?_
  refine xn_iconst (q := 75) 0 dX1_init_74 rfl (by decide) ?_
  refine xn_iconst (q := 76) 1 dX1_init_75 rfl (by decide) ?_
  refine x_zast (q := 77) dX1_init_76 rfl (nbk.at hk 4 rfl) (vp_in_nI (by decide) (by decide)) ?_
  have hk : nbk M0 (xup M (N + 4) (.inl (.boolean, 4, .inl oneF))) a N (.inr (4, [.ref (N), .ref (N + 1), .ref (N + 2), .ref (N + 3), .ref (N + 4), .ref (N + 5), .int 0])) [.inl (.long, 3, .inr (.inl f0)), .inl (.long, 3, .inr (.inl f1)), zaZ 6, .inl (.boolean, 4, .inl oneF), .inl (.boolean, 4, .inl oneF), laZ 4] := nbk.set hk ha 4 (Nat.le_of_ble_eq_true rfl) _
  show xX G l _ _ _ 77 _ _ (xup M (N + 4) (.inl (.boolean, 4, .inl oneF))) _ _
  generalize xup M (N + 4) _ = M at hk ⊢
  refine x_aload_n (q := 78) dX1_init_77 rfl rfl ?_
  refine xn_iconst (q := 79) 1 dX1_init_78 rfl (by decide) ?_
  refine x_put (q := 82) (v := .int (nI 1)) (ty := .int) xclX1 6 fwX1_35 (by decide) rfl dX1_init_79 rfl (by decide +kernel) rfl rfl (Nat.le_of_ble_eq_true rfl) hk.1 ?_
  have hk : nbk M0 (xup M a (.inr (4, [.ref (N), .ref (N + 1), .ref (N + 2), .ref (N + 3), .ref (N + 4), .ref (N + 5), .int (nI 1)]))) a N (.inr (4, [.ref (N), .ref (N + 1), .ref (N + 2), .ref (N + 3), .ref (N + 4), .ref (N + 5), .int (nI 1)])) [.inl (.long, 3, .inr (.inl f0)), .inl (.long, 3, .inr (.inl f1)), zaZ 6, .inl (.boolean, 4, .inl oneF), .inl (.boolean, 4, .inl oneF), laZ 4] := nbk.put hk ha _
  show xX G l _ _ _ 82 _ _ (xup M a (.inr (4, [.ref (N), .ref (N + 1), .ref (N + 2), .ref (N + 3), .ref (N + 4), .ref (N + 5), .int (nI 1)]))) _ _
  generalize xup M a _ = M at hk ⊢
  exact x_vret rfl dX1_init_82 ⟨rfl, rfl, rfl, f0, f1, hf0, hf1, hk⟩
set_option maxRecDepth 100000 in
set_option maxHeartbeats 4000000 in
theorem k_X3 (G : xG) (l : Launch) (d : Nat) (M0 : xM) (N S a : Nat)  (hM : M0 a = some (.inr (6, [.null, .null, .null]))) (ha : a < N) (hN : N + 6 ≤ G.2.2.2.2.1) (hS : S + 57 ≤ G.2.2.2.2.2) : xC G l YX3_init (d + 2) [.ref a] M0 N S (fun r M N' S' => r = none ∧ N' = N + 6 ∧ S' = S + 57 ∧ nbk M0 M a N (.inr (6, [.ref (N), .ref (N + 2), .ref (N + 4)])) [.inr (5, [.int 0, .int 0, .ref (N + 1)]), iaZ 16, .inr (5, [.int 0, .int 0, .ref (N + 3)]), iaZ 16, .inr (5, [.int 0, .int 0, .ref (N + 5)]), iaZ 16]) := by
  refine xC.of (ls := [(0, .ref a)]) (by decide) (Nat.le_of_ble_eq_true rfl) rfl ?_
  have hk : nbk M0 M0 a N (.inr (6, [.null, .null, .null])) [] := nbk0 hM
  suffices h : ∀ M : xM, nbk M0 M a N (.inr (6, [.null, .null, .null])) [] → xX G l YX3_init (d + 2) _ 0 [(0, .ref a)] [] M N S from h M0 hk
  clear hk; intro M hk
  refine x_aload_n (q := 1) dX3_init_0 rfl rfl ?_
  refine x_objInit (q := 4) owX3_1 oi1 oi2 dX3_init_1 rfl (Nat.le_of_ble_eq_true rfl) ?_
  refine x_aload_n (q := 5) dX3_init_4 rfl rfl ?_
  refine x_new (q := 8) (fs := [.int 0, .int 0, .null]) xclX2 nwX3_7 in1X2 in2X2 (fun j hj => by rcases (by omega : j = 0 ∨ j = 1 ∨ j = 2) with rfl | rfl | rfl <;> rfl) dX3_init_5 rfl (by omega) (by omega) (fun _ => ?_)
  refine x_dup (q := 9) dX3_init_8 rfl rfl ?_
  refine x_callIN (q := 12) (b := N) (As := []) imX2_init rfl rfl ivX2_init mnX3_9 dX3_init_9 rfl rfl rfl (Nat.le_of_ble_eq_true rfl) ?_
  refine (k_X2 G l _ (xup M (N) (.inr (5, [.int 0, .int 0, .null]))) (N + 1) (S + 3) (N)  (xup_s _ _ _) (by omega) (by omega) (by omega)).mono (fun r9 M9 N9 S9 hp => ?_)
  obtain ⟨rfl, rfl, rfl, hc⟩ := hp
  have hk : nbk M0 M9 a N (.inr (6, [.null, .null, .null])) [.inr (5, [.int 0, .int 0, .ref (N + 1)]), iaZ 16] := nbk.sub hk ha rfl hc
  clear hc
  generalize M9 = M at hk ⊢
  show xX G l _ _ _ 12 _ _ M (N + 2) (S + 19)
  refine x_putF (q := 15) (v := .ref (N)) (ty := .object "InfluenceRows$Big") xclX3 0 fwX3_10 (by decide) rfl rfl rfl dX3_init_12 rfl (by decide +kernel) rfl rfl (Nat.le_of_ble_eq_true rfl) hk.1 ?_
  have hk : nbk M0 (xup M a (.inr (6, [.ref (N), .null, .null]))) a N (.inr (6, [.ref (N), .null, .null])) [.inr (5, [.int 0, .int 0, .ref (N + 1)]), iaZ 16] := nbk.put hk ha _
  show xX G l _ _ _ 15 _ _ (xup M a (.inr (6, [.ref (N), .null, .null]))) _ _
  generalize xup M a _ = M at hk ⊢
  refine x_aload_n (q := 16) dX3_init_15 rfl rfl ?_
  refine x_new (q := 19) (fs := [.int 0, .int 0, .null]) xclX2 nwX3_7 in1X2 in2X2 (fun j hj => by rcases (by omega : j = 0 ∨ j = 1 ∨ j = 2) with rfl | rfl | rfl <;> rfl) dX3_init_16 rfl (by omega) (by omega) (fun _ => ?_)
  refine x_dup (q := 20) dX3_init_19 rfl rfl ?_
  refine x_callIN (q := 23) (b := N + 2) (As := []) imX2_init rfl rfl ivX2_init mnX3_9 dX3_init_20 rfl rfl rfl (Nat.le_of_ble_eq_true rfl) ?_
  refine (k_X2 G l _ (xup M (N + 2) (.inr (5, [.int 0, .int 0, .null]))) (N + 2 + 1) (S + 19 + 3) (N + 2)  (xup_s _ _ _) (by omega) (by omega) (by omega)).mono (fun r9 M9 N9 S9 hp => ?_)
  obtain ⟨rfl, rfl, rfl, hc⟩ := hp
  have hk : nbk M0 M9 a N (.inr (6, [.ref (N), .null, .null])) [.inr (5, [.int 0, .int 0, .ref (N + 1)]), iaZ 16, .inr (5, [.int 0, .int 0, .ref (N + 3)]), iaZ 16] := nbk.sub hk ha rfl hc
  clear hc
  generalize M9 = M at hk ⊢
  show xX G l _ _ _ 23 _ _ M (N + 4) (S + 38)
  refine x_put (q := 26) (v := .ref (N + 2)) (ty := .object "InfluenceRows$Big") xclX3 1 fwX3_16 (by decide) rfl dX3_init_23 rfl (by decide +kernel) rfl rfl (Nat.le_of_ble_eq_true rfl) hk.1 ?_
  have hk : nbk M0 (xup M a (.inr (6, [.ref (N), .ref (N + 2), .null]))) a N (.inr (6, [.ref (N), .ref (N + 2), .null])) [.inr (5, [.int 0, .int 0, .ref (N + 1)]), iaZ 16, .inr (5, [.int 0, .int 0, .ref (N + 3)]), iaZ 16] := nbk.put hk ha _
  show xX G l _ _ _ 26 _ _ (xup M a (.inr (6, [.ref (N), .ref (N + 2), .null]))) _ _
  generalize xup M a _ = M at hk ⊢
  refine x_aload_n (q := 27) dX3_init_26 rfl rfl ?_
  refine x_new (q := 30) (fs := [.int 0, .int 0, .null]) xclX2 nwX3_7 in1X2 in2X2 (fun j hj => by rcases (by omega : j = 0 ∨ j = 1 ∨ j = 2) with rfl | rfl | rfl <;> rfl) dX3_init_27 rfl (by omega) (by omega) (fun _ => ?_)
  refine x_dup (q := 31) dX3_init_30 rfl rfl ?_
  refine x_callIN (q := 34) (b := N + 4) (As := []) imX2_init rfl rfl ivX2_init mnX3_9 dX3_init_31 rfl rfl rfl (Nat.le_of_ble_eq_true rfl) ?_
  refine (k_X2 G l _ (xup M (N + 4) (.inr (5, [.int 0, .int 0, .null]))) (N + 4 + 1) (S + 38 + 3) (N + 4)  (xup_s _ _ _) (by omega) (by omega) (by omega)).mono (fun r9 M9 N9 S9 hp => ?_)
  obtain ⟨rfl, rfl, rfl, hc⟩ := hp
  have hk : nbk M0 M9 a N (.inr (6, [.ref (N), .ref (N + 2), .null])) [.inr (5, [.int 0, .int 0, .ref (N + 1)]), iaZ 16, .inr (5, [.int 0, .int 0, .ref (N + 3)]), iaZ 16, .inr (5, [.int 0, .int 0, .ref (N + 5)]), iaZ 16] := nbk.sub hk ha rfl hc
  clear hc
  generalize M9 = M at hk ⊢
  show xX G l _ _ _ 34 _ _ M (N + 6) (S + 57)
  refine x_put (q := 37) (v := .ref (N + 4)) (ty := .object "InfluenceRows$Big") xclX3 2 fwX3_19 (by decide) rfl dX3_init_34 rfl (by decide +kernel) rfl rfl (Nat.le_of_ble_eq_true rfl) hk.1 ?_
  have hk : nbk M0 (xup M a (.inr (6, [.ref (N), .ref (N + 2), .ref (N + 4)]))) a N (.inr (6, [.ref (N), .ref (N + 2), .ref (N + 4)])) [.inr (5, [.int 0, .int 0, .ref (N + 1)]), iaZ 16, .inr (5, [.int 0, .int 0, .ref (N + 3)]), iaZ 16, .inr (5, [.int 0, .int 0, .ref (N + 5)]), iaZ 16] := nbk.put hk ha _
  show xX G l _ _ _ 37 _ _ (xup M a (.inr (6, [.ref (N), .ref (N + 2), .ref (N + 4)]))) _ _
  generalize xup M a _ = M at hk ⊢
  exact x_vret rfl dX3_init_37 ⟨rfl, rfl, rfl, hk⟩
set_option maxRecDepth 100000 in
set_option maxHeartbeats 4000000 in
theorem k_X6 (G : xG) (l : Launch) (d : Nat) (M0 : xM) (N S a : Nat)  (hM : M0 a = some (.inr (9, [.null, .null, .null, .null]))) (ha : a < N) (hN : N + 13 ≤ G.2.2.2.2.1) (hS : S + 117 ≤ G.2.2.2.2.2) : xC G l YX6_init (d + 3) [.ref a] M0 N S (fun r M N' S' => r = none ∧ N' = N + 13 ∧ S' = S + 117 ∧ nbk M0 M a N (.inr (9, [.ref (N), .ref (N + 2), .ref (N + 4), .ref (N + 11)])) [.inr (5, [.int 0, .int 0, .ref (N + 1)]), iaZ 16, .inr (5, [.int 0, .int 0, .ref (N + 3)]), iaZ 16, .inr (6, [.ref (N + 5), .ref (N + 7), .ref (N + 9)]), .inr (5, [.int 0, .int 0, .ref (N + 6)]), iaZ 16, .inr (5, [.int 0, .int 0, .ref (N + 8)]), iaZ 16, .inr (5, [.int 0, .int 0, .ref (N + 10)]), iaZ 16, .inr (5, [.int 0, .int 0, .ref (N + 12)]), iaZ 16]) := by
  refine xC.of (ls := [(0, .ref a)]) (by decide) (Nat.le_of_ble_eq_true rfl) rfl ?_
  have hk : nbk M0 M0 a N (.inr (9, [.null, .null, .null, .null])) [] := nbk0 hM
  suffices h : ∀ M : xM, nbk M0 M a N (.inr (9, [.null, .null, .null, .null])) [] → xX G l YX6_init (d + 3) _ 0 [(0, .ref a)] [] M N S from h M0 hk
  clear hk; intro M hk
  refine x_aload_n (q := 1) dX6_init_0 rfl rfl ?_
  refine x_objInit (q := 4) owX6_1 oi1 oi2 dX6_init_1 rfl (Nat.le_of_ble_eq_true rfl) ?_
  refine x_aload_n (q := 5) dX6_init_4 rfl rfl ?_
  refine x_new (q := 8) (fs := [.int 0, .int 0, .null]) xclX2 nwX6_7 in1X2 in2X2 (fun j hj => by rcases (by omega : j = 0 ∨ j = 1 ∨ j = 2) with rfl | rfl | rfl <;> rfl) dX6_init_5 rfl (by omega) (by omega) (fun _ => ?_)
  refine x_dup (q := 9) dX6_init_8 rfl rfl ?_
  refine x_callIN (q := 12) (b := N) (As := []) imX2_init rfl rfl ivX2_init mnX6_9 dX6_init_9 rfl rfl rfl (Nat.le_of_ble_eq_true rfl) ?_
  refine (k_X2 G l _ (xup M (N) (.inr (5, [.int 0, .int 0, .null]))) (N + 1) (S + 3) (N)  (xup_s _ _ _) (by omega) (by omega) (by omega)).mono (fun r9 M9 N9 S9 hp => ?_)
  obtain ⟨rfl, rfl, rfl, hc⟩ := hp
  have hk : nbk M0 M9 a N (.inr (9, [.null, .null, .null, .null])) [.inr (5, [.int 0, .int 0, .ref (N + 1)]), iaZ 16] := nbk.sub hk ha rfl hc
  clear hc
  generalize M9 = M at hk ⊢
  show xX G l _ _ _ 12 _ _ M (N + 2) (S + 19)
  refine x_putF (q := 15) (v := .ref (N)) (ty := .object "InfluenceRows$Big") xclX6 0 fwX6_10 (by decide) rfl rfl rfl dX6_init_12 rfl (by decide +kernel) rfl rfl (Nat.le_of_ble_eq_true rfl) hk.1 ?_
  have hk : nbk M0 (xup M a (.inr (9, [.ref (N), .null, .null, .null]))) a N (.inr (9, [.ref (N), .null, .null, .null])) [.inr (5, [.int 0, .int 0, .ref (N + 1)]), iaZ 16] := nbk.put hk ha _
  show xX G l _ _ _ 15 _ _ (xup M a (.inr (9, [.ref (N), .null, .null, .null]))) _ _
  generalize xup M a _ = M at hk ⊢
  refine x_aload_n (q := 16) dX6_init_15 rfl rfl ?_
  refine x_new (q := 19) (fs := [.int 0, .int 0, .null]) xclX2 nwX6_7 in1X2 in2X2 (fun j hj => by rcases (by omega : j = 0 ∨ j = 1 ∨ j = 2) with rfl | rfl | rfl <;> rfl) dX6_init_16 rfl (by omega) (by omega) (fun _ => ?_)
  refine x_dup (q := 20) dX6_init_19 rfl rfl ?_
  refine x_callIN (q := 23) (b := N + 2) (As := []) imX2_init rfl rfl ivX2_init mnX6_9 dX6_init_20 rfl rfl rfl (Nat.le_of_ble_eq_true rfl) ?_
  refine (k_X2 G l _ (xup M (N + 2) (.inr (5, [.int 0, .int 0, .null]))) (N + 2 + 1) (S + 19 + 3) (N + 2)  (xup_s _ _ _) (by omega) (by omega) (by omega)).mono (fun r9 M9 N9 S9 hp => ?_)
  obtain ⟨rfl, rfl, rfl, hc⟩ := hp
  have hk : nbk M0 M9 a N (.inr (9, [.ref (N), .null, .null, .null])) [.inr (5, [.int 0, .int 0, .ref (N + 1)]), iaZ 16, .inr (5, [.int 0, .int 0, .ref (N + 3)]), iaZ 16] := nbk.sub hk ha rfl hc
  clear hc
  generalize M9 = M at hk ⊢
  show xX G l _ _ _ 23 _ _ M (N + 4) (S + 38)
  refine x_putF (q := 26) (v := .ref (N + 2)) (ty := .object "InfluenceRows$Big") xclX6 1 fwX6_16 (by decide) rfl rfl rfl dX6_init_23 rfl (by decide +kernel) rfl rfl (Nat.le_of_ble_eq_true rfl) hk.1 ?_
  have hk : nbk M0 (xup M a (.inr (9, [.ref (N), .ref (N + 2), .null, .null]))) a N (.inr (9, [.ref (N), .ref (N + 2), .null, .null])) [.inr (5, [.int 0, .int 0, .ref (N + 1)]), iaZ 16, .inr (5, [.int 0, .int 0, .ref (N + 3)]), iaZ 16] := nbk.put hk ha _
  show xX G l _ _ _ 26 _ _ (xup M a (.inr (9, [.ref (N), .ref (N + 2), .null, .null]))) _ _
  generalize xup M a _ = M at hk ⊢
  refine x_aload_n (q := 27) dX6_init_26 rfl rfl ?_
  refine x_new (q := 30) (fs := [.null, .null, .null]) xclX3 nwX6_19 in1X3 in2X3 (fun j hj => by rcases (by omega : j = 0 ∨ j = 1 ∨ j = 2) with rfl | rfl | rfl <;> rfl) dX6_init_27 rfl (by omega) (by omega) (fun _ => ?_)
  refine x_dup (q := 31) dX6_init_30 rfl rfl ?_
  refine x_callIN (q := 34) (b := N + 4) (As := []) imX3_init rfl rfl ivX3_init mnX6_21 dX6_init_31 rfl rfl rfl (Nat.le_of_ble_eq_true rfl) ?_
  refine (k_X3 G l _ (xup M (N + 4) (.inr (6, [.null, .null, .null]))) (N + 4 + 1) (S + 38 + 3) (N + 4)  (xup_s _ _ _) (by omega) (by omega) (by omega)).mono (fun r9 M9 N9 S9 hp => ?_)
  obtain ⟨rfl, rfl, rfl, hc⟩ := hp
  have hk : nbk M0 M9 a N (.inr (9, [.ref (N), .ref (N + 2), .null, .null])) [.inr (5, [.int 0, .int 0, .ref (N + 1)]), iaZ 16, .inr (5, [.int 0, .int 0, .ref (N + 3)]), iaZ 16, .inr (6, [.ref (N + 5), .ref (N + 7), .ref (N + 9)]), .inr (5, [.int 0, .int 0, .ref (N + 6)]), iaZ 16, .inr (5, [.int 0, .int 0, .ref (N + 8)]), iaZ 16, .inr (5, [.int 0, .int 0, .ref (N + 10)]), iaZ 16] := nbk.sub hk ha rfl hc
  clear hc
  generalize M9 = M at hk ⊢
  show xX G l _ _ _ 34 _ _ M (N + 11) (S + 98)
  refine x_putF (q := 37) (v := .ref (N + 4)) (ty := .object "InfluenceRows$Divisor") xclX6 2 fwX6_22 (by decide) rfl rfl rfl dX6_init_34 rfl (by decide +kernel) rfl rfl (Nat.le_of_ble_eq_true rfl) hk.1 ?_
  have hk : nbk M0 (xup M a (.inr (9, [.ref (N), .ref (N + 2), .ref (N + 4), .null]))) a N (.inr (9, [.ref (N), .ref (N + 2), .ref (N + 4), .null])) [.inr (5, [.int 0, .int 0, .ref (N + 1)]), iaZ 16, .inr (5, [.int 0, .int 0, .ref (N + 3)]), iaZ 16, .inr (6, [.ref (N + 5), .ref (N + 7), .ref (N + 9)]), .inr (5, [.int 0, .int 0, .ref (N + 6)]), iaZ 16, .inr (5, [.int 0, .int 0, .ref (N + 8)]), iaZ 16, .inr (5, [.int 0, .int 0, .ref (N + 10)]), iaZ 16] := nbk.put hk ha _
  show xX G l _ _ _ 37 _ _ (xup M a (.inr (9, [.ref (N), .ref (N + 2), .ref (N + 4), .null]))) _ _
  generalize xup M a _ = M at hk ⊢
  refine x_aload_n (q := 38) dX6_init_37 rfl rfl ?_
  refine x_new (q := 41) (fs := [.int 0, .int 0, .null]) xclX2 nwX6_7 in1X2 in2X2 (fun j hj => by rcases (by omega : j = 0 ∨ j = 1 ∨ j = 2) with rfl | rfl | rfl <;> rfl) dX6_init_38 rfl (by omega) (by omega) (fun _ => ?_)
  refine x_dup (q := 42) dX6_init_41 rfl rfl ?_
  refine x_callIN (q := 45) (b := N + 11) (As := []) imX2_init rfl rfl ivX2_init mnX6_9 dX6_init_42 rfl rfl rfl (Nat.le_of_ble_eq_true rfl) ?_
  refine (k_X2 G l _ (xup M (N + 11) (.inr (5, [.int 0, .int 0, .null]))) (N + 11 + 1) (S + 98 + 3) (N + 11)  (xup_s _ _ _) (by omega) (by omega) (by omega)).mono (fun r9 M9 N9 S9 hp => ?_)
  obtain ⟨rfl, rfl, rfl, hc⟩ := hp
  have hk : nbk M0 M9 a N (.inr (9, [.ref (N), .ref (N + 2), .ref (N + 4), .null])) [.inr (5, [.int 0, .int 0, .ref (N + 1)]), iaZ 16, .inr (5, [.int 0, .int 0, .ref (N + 3)]), iaZ 16, .inr (6, [.ref (N + 5), .ref (N + 7), .ref (N + 9)]), .inr (5, [.int 0, .int 0, .ref (N + 6)]), iaZ 16, .inr (5, [.int 0, .int 0, .ref (N + 8)]), iaZ 16, .inr (5, [.int 0, .int 0, .ref (N + 10)]), iaZ 16, .inr (5, [.int 0, .int 0, .ref (N + 12)]), iaZ 16] := nbk.sub hk ha rfl hc
  clear hc
  generalize M9 = M at hk ⊢
  show xX G l _ _ _ 45 _ _ M (N + 13) (S + 117)
  refine x_putF (q := 48) (v := .ref (N + 11)) (ty := .object "InfluenceRows$Big") xclX6 3 fwX6_26 (by decide) rfl rfl rfl dX6_init_45 rfl (by decide +kernel) rfl rfl (Nat.le_of_ble_eq_true rfl) hk.1 ?_
  have hk : nbk M0 (xup M a (.inr (9, [.ref (N), .ref (N + 2), .ref (N + 4), .ref (N + 11)]))) a N (.inr (9, [.ref (N), .ref (N + 2), .ref (N + 4), .ref (N + 11)])) [.inr (5, [.int 0, .int 0, .ref (N + 1)]), iaZ 16, .inr (5, [.int 0, .int 0, .ref (N + 3)]), iaZ 16, .inr (6, [.ref (N + 5), .ref (N + 7), .ref (N + 9)]), .inr (5, [.int 0, .int 0, .ref (N + 6)]), iaZ 16, .inr (5, [.int 0, .int 0, .ref (N + 8)]), iaZ 16, .inr (5, [.int 0, .int 0, .ref (N + 10)]), iaZ 16, .inr (5, [.int 0, .int 0, .ref (N + 12)]), iaZ 16] := nbk.put hk ha _
  show xX G l _ _ _ 48 _ _ (xup M a (.inr (9, [.ref (N), .ref (N + 2), .ref (N + 4), .ref (N + 11)]))) _ _
  generalize xup M a _ = M at hk ⊢
  exact x_vret rfl dX6_init_48 ⟨rfl, rfl, rfl, hk⟩
set_option maxRecDepth 100000 in
set_option maxHeartbeats 4000000 in
theorem k_X0 (G : xG) (l : Launch) (d : Nat) (M0 : xM) (N S a : Nat)  (hM : M0 a = some (.inr (3, [.null, .null, .null, .null, .null, .null, .null, .null, .null, .null]))) (ha : a < N) (hN : N + 25 ≤ G.2.2.2.2.1) (hS : S + 231 ≤ G.2.2.2.2.2) : xC G l YX0_init (d + 3) [.ref a] M0 N S (fun r M N' S' => r = none ∧ N' = N + 25 ∧ S' = S + 231 ∧ nbk M0 M a N (.inr (3, [.ref (N), .ref (N + 7), .ref (N + 9), .ref (N + 11), .ref (N + 13), .ref (N + 15), .ref (N + 17), .ref (N + 19), .ref (N + 21), .ref (N + 23)])) [.inr (6, [.ref (N + 1), .ref (N + 3), .ref (N + 5)]), .inr (5, [.int 0, .int 0, .ref (N + 2)]), iaZ 16, .inr (5, [.int 0, .int 0, .ref (N + 4)]), iaZ 16, .inr (5, [.int 0, .int 0, .ref (N + 6)]), iaZ 16, .inr (5, [.int 0, .int 0, .ref (N + 8)]), iaZ 16, .inr (5, [.int 0, .int 0, .ref (N + 10)]), iaZ 16, .inr (5, [.int 0, .int 0, .ref (N + 12)]), iaZ 16, .inr (5, [.int 0, .int 0, .ref (N + 14)]), iaZ 16, .inr (5, [.int 0, .int 0, .ref (N + 16)]), iaZ 16, .inr (5, [.int 0, .int 0, .ref (N + 18)]), iaZ 16, .inr (5, [.int 0, .int 0, .ref (N + 20)]), iaZ 16, .inr (5, [.int 0, .int 0, .ref (N + 22)]), iaZ 16, .inr (5, [.int 0, .int 0, .ref (N + 24)]), iaZ 16]) := by
  refine xC.of (ls := [(0, .ref a)]) (by decide) (Nat.le_of_ble_eq_true rfl) rfl ?_
  have hk : nbk M0 M0 a N (.inr (3, [.null, .null, .null, .null, .null, .null, .null, .null, .null, .null])) [] := nbk0 hM
  suffices h : ∀ M : xM, nbk M0 M a N (.inr (3, [.null, .null, .null, .null, .null, .null, .null, .null, .null, .null])) [] → xX G l YX0_init (d + 3) _ 0 [(0, .ref a)] [] M N S from h M0 hk
  clear hk; intro M hk
  refine x_aload_n (q := 1) dX0_init_0 rfl rfl ?_
  refine x_objInit (q := 4) owX0_3 oi1 oi2 dX0_init_1 rfl (Nat.le_of_ble_eq_true rfl) ?_
  refine x_aload_n (q := 5) dX0_init_4 rfl rfl ?_
  refine x_new (q := 8) (fs := [.null, .null, .null]) xclX3 nwX0_9 in1X3 in2X3 (fun j hj => by rcases (by omega : j = 0 ∨ j = 1 ∨ j = 2) with rfl | rfl | rfl <;> rfl) dX0_init_5 rfl (by omega) (by omega) (fun _ => ?_)
  refine x_dup (q := 9) dX0_init_8 rfl rfl ?_
  refine x_callIN (q := 12) (b := N) (As := []) imX3_init rfl rfl ivX3_init mnX0_11 dX0_init_9 rfl rfl rfl (Nat.le_of_ble_eq_true rfl) ?_
  refine (k_X3 G l _ (xup M (N) (.inr (6, [.null, .null, .null]))) (N + 1) (S + 3) (N)  (xup_s _ _ _) (by omega) (by omega) (by omega)).mono (fun r9 M9 N9 S9 hp => ?_)
  obtain ⟨rfl, rfl, rfl, hc⟩ := hp
  have hk : nbk M0 M9 a N (.inr (3, [.null, .null, .null, .null, .null, .null, .null, .null, .null, .null])) [.inr (6, [.ref (N + 1), .ref (N + 3), .ref (N + 5)]), .inr (5, [.int 0, .int 0, .ref (N + 2)]), iaZ 16, .inr (5, [.int 0, .int 0, .ref (N + 4)]), iaZ 16, .inr (5, [.int 0, .int 0, .ref (N + 6)]), iaZ 16] := nbk.sub hk ha rfl hc
  clear hc
  generalize M9 = M at hk ⊢
  show xX G l _ _ _ 12 _ _ M (N + 7) (S + 60)
  refine x_putF (q := 15) (v := .ref (N)) (ty := .object "InfluenceRows$Divisor") xclX0 0 fwX0_12 (by decide) rfl rfl rfl dX0_init_12 rfl (by decide +kernel) rfl rfl (Nat.le_of_ble_eq_true rfl) hk.1 ?_
  have hk : nbk M0 (xup M a (.inr (3, [.ref (N), .null, .null, .null, .null, .null, .null, .null, .null, .null]))) a N (.inr (3, [.ref (N), .null, .null, .null, .null, .null, .null, .null, .null, .null])) [.inr (6, [.ref (N + 1), .ref (N + 3), .ref (N + 5)]), .inr (5, [.int 0, .int 0, .ref (N + 2)]), iaZ 16, .inr (5, [.int 0, .int 0, .ref (N + 4)]), iaZ 16, .inr (5, [.int 0, .int 0, .ref (N + 6)]), iaZ 16] := nbk.put hk ha _
  show xX G l _ _ _ 15 _ _ (xup M a (.inr (3, [.ref (N), .null, .null, .null, .null, .null, .null, .null, .null, .null]))) _ _
  generalize xup M a _ = M at hk ⊢
  refine x_aload_n (q := 16) dX0_init_15 rfl rfl ?_
  refine x_new (q := 19) (fs := [.int 0, .int 0, .null]) xclX2 nwX0_18 in1X2 in2X2 (fun j hj => by rcases (by omega : j = 0 ∨ j = 1 ∨ j = 2) with rfl | rfl | rfl <;> rfl) dX0_init_16 rfl (by omega) (by omega) (fun _ => ?_)
  refine x_dup (q := 20) dX0_init_19 rfl rfl ?_
  refine x_callIN (q := 23) (b := N + 7) (As := []) imX2_init rfl rfl ivX2_init mnX0_20 dX0_init_20 rfl rfl rfl (Nat.le_of_ble_eq_true rfl) ?_
  refine (k_X2 G l _ (xup M (N + 7) (.inr (5, [.int 0, .int 0, .null]))) (N + 7 + 1) (S + 60 + 3) (N + 7)  (xup_s _ _ _) (by omega) (by omega) (by omega)).mono (fun r9 M9 N9 S9 hp => ?_)
  obtain ⟨rfl, rfl, rfl, hc⟩ := hp
  have hk : nbk M0 M9 a N (.inr (3, [.ref (N), .null, .null, .null, .null, .null, .null, .null, .null, .null])) [.inr (6, [.ref (N + 1), .ref (N + 3), .ref (N + 5)]), .inr (5, [.int 0, .int 0, .ref (N + 2)]), iaZ 16, .inr (5, [.int 0, .int 0, .ref (N + 4)]), iaZ 16, .inr (5, [.int 0, .int 0, .ref (N + 6)]), iaZ 16, .inr (5, [.int 0, .int 0, .ref (N + 8)]), iaZ 16] := nbk.sub hk ha rfl hc
  clear hc
  generalize M9 = M at hk ⊢
  show xX G l _ _ _ 23 _ _ M (N + 9) (S + 79)
  refine x_putF (q := 26) (v := .ref (N + 7)) (ty := .object "InfluenceRows$Big") xclX0 1 fwX0_21 (by decide) rfl rfl rfl dX0_init_23 rfl (by decide +kernel) rfl rfl (Nat.le_of_ble_eq_true rfl) hk.1 ?_
  have hk : nbk M0 (xup M a (.inr (3, [.ref (N), .ref (N + 7), .null, .null, .null, .null, .null, .null, .null, .null]))) a N (.inr (3, [.ref (N), .ref (N + 7), .null, .null, .null, .null, .null, .null, .null, .null])) [.inr (6, [.ref (N + 1), .ref (N + 3), .ref (N + 5)]), .inr (5, [.int 0, .int 0, .ref (N + 2)]), iaZ 16, .inr (5, [.int 0, .int 0, .ref (N + 4)]), iaZ 16, .inr (5, [.int 0, .int 0, .ref (N + 6)]), iaZ 16, .inr (5, [.int 0, .int 0, .ref (N + 8)]), iaZ 16] := nbk.put hk ha _
  show xX G l _ _ _ 26 _ _ (xup M a (.inr (3, [.ref (N), .ref (N + 7), .null, .null, .null, .null, .null, .null, .null, .null]))) _ _
  generalize xup M a _ = M at hk ⊢
  refine x_aload_n (q := 27) dX0_init_26 rfl rfl ?_
  refine x_new (q := 30) (fs := [.int 0, .int 0, .null]) xclX2 nwX0_18 in1X2 in2X2 (fun j hj => by rcases (by omega : j = 0 ∨ j = 1 ∨ j = 2) with rfl | rfl | rfl <;> rfl) dX0_init_27 rfl (by omega) (by omega) (fun _ => ?_)
  refine x_dup (q := 31) dX0_init_30 rfl rfl ?_
  refine x_callIN (q := 34) (b := N + 9) (As := []) imX2_init rfl rfl ivX2_init mnX0_20 dX0_init_31 rfl rfl rfl (Nat.le_of_ble_eq_true rfl) ?_
  refine (k_X2 G l _ (xup M (N + 9) (.inr (5, [.int 0, .int 0, .null]))) (N + 9 + 1) (S + 79 + 3) (N + 9)  (xup_s _ _ _) (by omega) (by omega) (by omega)).mono (fun r9 M9 N9 S9 hp => ?_)
  obtain ⟨rfl, rfl, rfl, hc⟩ := hp
  have hk : nbk M0 M9 a N (.inr (3, [.ref (N), .ref (N + 7), .null, .null, .null, .null, .null, .null, .null, .null])) [.inr (6, [.ref (N + 1), .ref (N + 3), .ref (N + 5)]), .inr (5, [.int 0, .int 0, .ref (N + 2)]), iaZ 16, .inr (5, [.int 0, .int 0, .ref (N + 4)]), iaZ 16, .inr (5, [.int 0, .int 0, .ref (N + 6)]), iaZ 16, .inr (5, [.int 0, .int 0, .ref (N + 8)]), iaZ 16, .inr (5, [.int 0, .int 0, .ref (N + 10)]), iaZ 16] := nbk.sub hk ha rfl hc
  clear hc
  generalize M9 = M at hk ⊢
  show xX G l _ _ _ 34 _ _ M (N + 11) (S + 98)
  refine x_putF (q := 37) (v := .ref (N + 9)) (ty := .object "InfluenceRows$Big") xclX0 2 fwX0_25 (by decide) rfl rfl rfl dX0_init_34 rfl (by decide +kernel) rfl rfl (Nat.le_of_ble_eq_true rfl) hk.1 ?_
  have hk : nbk M0 (xup M a (.inr (3, [.ref (N), .ref (N + 7), .ref (N + 9), .null, .null, .null, .null, .null, .null, .null]))) a N (.inr (3, [.ref (N), .ref (N + 7), .ref (N + 9), .null, .null, .null, .null, .null, .null, .null])) [.inr (6, [.ref (N + 1), .ref (N + 3), .ref (N + 5)]), .inr (5, [.int 0, .int 0, .ref (N + 2)]), iaZ 16, .inr (5, [.int 0, .int 0, .ref (N + 4)]), iaZ 16, .inr (5, [.int 0, .int 0, .ref (N + 6)]), iaZ 16, .inr (5, [.int 0, .int 0, .ref (N + 8)]), iaZ 16, .inr (5, [.int 0, .int 0, .ref (N + 10)]), iaZ 16] := nbk.put hk ha _
  show xX G l _ _ _ 37 _ _ (xup M a (.inr (3, [.ref (N), .ref (N + 7), .ref (N + 9), .null, .null, .null, .null, .null, .null, .null]))) _ _
  generalize xup M a _ = M at hk ⊢
  refine x_aload_n (q := 38) dX0_init_37 rfl rfl ?_
  refine x_new (q := 41) (fs := [.int 0, .int 0, .null]) xclX2 nwX0_18 in1X2 in2X2 (fun j hj => by rcases (by omega : j = 0 ∨ j = 1 ∨ j = 2) with rfl | rfl | rfl <;> rfl) dX0_init_38 rfl (by omega) (by omega) (fun _ => ?_)
  refine x_dup (q := 42) dX0_init_41 rfl rfl ?_
  refine x_callIN (q := 45) (b := N + 11) (As := []) imX2_init rfl rfl ivX2_init mnX0_20 dX0_init_42 rfl rfl rfl (Nat.le_of_ble_eq_true rfl) ?_
  refine (k_X2 G l _ (xup M (N + 11) (.inr (5, [.int 0, .int 0, .null]))) (N + 11 + 1) (S + 98 + 3) (N + 11)  (xup_s _ _ _) (by omega) (by omega) (by omega)).mono (fun r9 M9 N9 S9 hp => ?_)
  obtain ⟨rfl, rfl, rfl, hc⟩ := hp
  have hk : nbk M0 M9 a N (.inr (3, [.ref (N), .ref (N + 7), .ref (N + 9), .null, .null, .null, .null, .null, .null, .null])) [.inr (6, [.ref (N + 1), .ref (N + 3), .ref (N + 5)]), .inr (5, [.int 0, .int 0, .ref (N + 2)]), iaZ 16, .inr (5, [.int 0, .int 0, .ref (N + 4)]), iaZ 16, .inr (5, [.int 0, .int 0, .ref (N + 6)]), iaZ 16, .inr (5, [.int 0, .int 0, .ref (N + 8)]), iaZ 16, .inr (5, [.int 0, .int 0, .ref (N + 10)]), iaZ 16, .inr (5, [.int 0, .int 0, .ref (N + 12)]), iaZ 16] := nbk.sub hk ha rfl hc
  clear hc
  generalize M9 = M at hk ⊢
  show xX G l _ _ _ 45 _ _ M (N + 13) (S + 117)
  refine x_putF (q := 48) (v := .ref (N + 11)) (ty := .object "InfluenceRows$Big") xclX0 3 fwX0_28 (by decide) rfl rfl rfl dX0_init_45 rfl (by decide +kernel) rfl rfl (Nat.le_of_ble_eq_true rfl) hk.1 ?_
  have hk : nbk M0 (xup M a (.inr (3, [.ref (N), .ref (N + 7), .ref (N + 9), .ref (N + 11), .null, .null, .null, .null, .null, .null]))) a N (.inr (3, [.ref (N), .ref (N + 7), .ref (N + 9), .ref (N + 11), .null, .null, .null, .null, .null, .null])) [.inr (6, [.ref (N + 1), .ref (N + 3), .ref (N + 5)]), .inr (5, [.int 0, .int 0, .ref (N + 2)]), iaZ 16, .inr (5, [.int 0, .int 0, .ref (N + 4)]), iaZ 16, .inr (5, [.int 0, .int 0, .ref (N + 6)]), iaZ 16, .inr (5, [.int 0, .int 0, .ref (N + 8)]), iaZ 16, .inr (5, [.int 0, .int 0, .ref (N + 10)]), iaZ 16, .inr (5, [.int 0, .int 0, .ref (N + 12)]), iaZ 16] := nbk.put hk ha _
  show xX G l _ _ _ 48 _ _ (xup M a (.inr (3, [.ref (N), .ref (N + 7), .ref (N + 9), .ref (N + 11), .null, .null, .null, .null, .null, .null]))) _ _
  generalize xup M a _ = M at hk ⊢
  refine x_aload_n (q := 49) dX0_init_48 rfl rfl ?_
  refine x_new (q := 52) (fs := [.int 0, .int 0, .null]) xclX2 nwX0_18 in1X2 in2X2 (fun j hj => by rcases (by omega : j = 0 ∨ j = 1 ∨ j = 2) with rfl | rfl | rfl <;> rfl) dX0_init_49 rfl (by omega) (by omega) (fun _ => ?_)
  refine x_dup (q := 53) dX0_init_52 rfl rfl ?_
  refine x_callIN (q := 56) (b := N + 13) (As := []) imX2_init rfl rfl ivX2_init mnX0_20 dX0_init_53 rfl rfl rfl (Nat.le_of_ble_eq_true rfl) ?_
  refine (k_X2 G l _ (xup M (N + 13) (.inr (5, [.int 0, .int 0, .null]))) (N + 13 + 1) (S + 117 + 3) (N + 13)  (xup_s _ _ _) (by omega) (by omega) (by omega)).mono (fun r9 M9 N9 S9 hp => ?_)
  obtain ⟨rfl, rfl, rfl, hc⟩ := hp
  have hk : nbk M0 M9 a N (.inr (3, [.ref (N), .ref (N + 7), .ref (N + 9), .ref (N + 11), .null, .null, .null, .null, .null, .null])) [.inr (6, [.ref (N + 1), .ref (N + 3), .ref (N + 5)]), .inr (5, [.int 0, .int 0, .ref (N + 2)]), iaZ 16, .inr (5, [.int 0, .int 0, .ref (N + 4)]), iaZ 16, .inr (5, [.int 0, .int 0, .ref (N + 6)]), iaZ 16, .inr (5, [.int 0, .int 0, .ref (N + 8)]), iaZ 16, .inr (5, [.int 0, .int 0, .ref (N + 10)]), iaZ 16, .inr (5, [.int 0, .int 0, .ref (N + 12)]), iaZ 16, .inr (5, [.int 0, .int 0, .ref (N + 14)]), iaZ 16] := nbk.sub hk ha rfl hc
  clear hc
  generalize M9 = M at hk ⊢
  show xX G l _ _ _ 56 _ _ M (N + 15) (S + 136)
  refine x_putF (q := 59) (v := .ref (N + 13)) (ty := .object "InfluenceRows$Big") xclX0 4 fwX0_31 (by decide) rfl rfl rfl dX0_init_56 rfl (by decide +kernel) rfl rfl (Nat.le_of_ble_eq_true rfl) hk.1 ?_
  have hk : nbk M0 (xup M a (.inr (3, [.ref (N), .ref (N + 7), .ref (N + 9), .ref (N + 11), .ref (N + 13), .null, .null, .null, .null, .null]))) a N (.inr (3, [.ref (N), .ref (N + 7), .ref (N + 9), .ref (N + 11), .ref (N + 13), .null, .null, .null, .null, .null])) [.inr (6, [.ref (N + 1), .ref (N + 3), .ref (N + 5)]), .inr (5, [.int 0, .int 0, .ref (N + 2)]), iaZ 16, .inr (5, [.int 0, .int 0, .ref (N + 4)]), iaZ 16, .inr (5, [.int 0, .int 0, .ref (N + 6)]), iaZ 16, .inr (5, [.int 0, .int 0, .ref (N + 8)]), iaZ 16, .inr (5, [.int 0, .int 0, .ref (N + 10)]), iaZ 16, .inr (5, [.int 0, .int 0, .ref (N + 12)]), iaZ 16, .inr (5, [.int 0, .int 0, .ref (N + 14)]), iaZ 16] := nbk.put hk ha _
  show xX G l _ _ _ 59 _ _ (xup M a (.inr (3, [.ref (N), .ref (N + 7), .ref (N + 9), .ref (N + 11), .ref (N + 13), .null, .null, .null, .null, .null]))) _ _
  generalize xup M a _ = M at hk ⊢
  refine x_aload_n (q := 60) dX0_init_59 rfl rfl ?_
  refine x_new (q := 63) (fs := [.int 0, .int 0, .null]) xclX2 nwX0_18 in1X2 in2X2 (fun j hj => by rcases (by omega : j = 0 ∨ j = 1 ∨ j = 2) with rfl | rfl | rfl <;> rfl) dX0_init_60 rfl (by omega) (by omega) (fun _ => ?_)
  refine x_dup (q := 64) dX0_init_63 rfl rfl ?_
  refine x_callIN (q := 67) (b := N + 15) (As := []) imX2_init rfl rfl ivX2_init mnX0_20 dX0_init_64 rfl rfl rfl (Nat.le_of_ble_eq_true rfl) ?_
  refine (k_X2 G l _ (xup M (N + 15) (.inr (5, [.int 0, .int 0, .null]))) (N + 15 + 1) (S + 136 + 3) (N + 15)  (xup_s _ _ _) (by omega) (by omega) (by omega)).mono (fun r9 M9 N9 S9 hp => ?_)
  obtain ⟨rfl, rfl, rfl, hc⟩ := hp
  have hk : nbk M0 M9 a N (.inr (3, [.ref (N), .ref (N + 7), .ref (N + 9), .ref (N + 11), .ref (N + 13), .null, .null, .null, .null, .null])) [.inr (6, [.ref (N + 1), .ref (N + 3), .ref (N + 5)]), .inr (5, [.int 0, .int 0, .ref (N + 2)]), iaZ 16, .inr (5, [.int 0, .int 0, .ref (N + 4)]), iaZ 16, .inr (5, [.int 0, .int 0, .ref (N + 6)]), iaZ 16, .inr (5, [.int 0, .int 0, .ref (N + 8)]), iaZ 16, .inr (5, [.int 0, .int 0, .ref (N + 10)]), iaZ 16, .inr (5, [.int 0, .int 0, .ref (N + 12)]), iaZ 16, .inr (5, [.int 0, .int 0, .ref (N + 14)]), iaZ 16, .inr (5, [.int 0, .int 0, .ref (N + 16)]), iaZ 16] := nbk.sub hk ha rfl hc
  clear hc
  generalize M9 = M at hk ⊢
  show xX G l _ _ _ 67 _ _ M (N + 17) (S + 155)
  refine x_putF (q := 70) (v := .ref (N + 15)) (ty := .object "InfluenceRows$Big") xclX0 5 fwX0_34 (by decide) rfl rfl rfl dX0_init_67 rfl (by decide +kernel) rfl rfl (Nat.le_of_ble_eq_true rfl) hk.1 ?_
  have hk : nbk M0 (xup M a (.inr (3, [.ref (N), .ref (N + 7), .ref (N + 9), .ref (N + 11), .ref (N + 13), .ref (N + 15), .null, .null, .null, .null]))) a N (.inr (3, [.ref (N), .ref (N + 7), .ref (N + 9), .ref (N + 11), .ref (N + 13), .ref (N + 15), .null, .null, .null, .null])) [.inr (6, [.ref (N + 1), .ref (N + 3), .ref (N + 5)]), .inr (5, [.int 0, .int 0, .ref (N + 2)]), iaZ 16, .inr (5, [.int 0, .int 0, .ref (N + 4)]), iaZ 16, .inr (5, [.int 0, .int 0, .ref (N + 6)]), iaZ 16, .inr (5, [.int 0, .int 0, .ref (N + 8)]), iaZ 16, .inr (5, [.int 0, .int 0, .ref (N + 10)]), iaZ 16, .inr (5, [.int 0, .int 0, .ref (N + 12)]), iaZ 16, .inr (5, [.int 0, .int 0, .ref (N + 14)]), iaZ 16, .inr (5, [.int 0, .int 0, .ref (N + 16)]), iaZ 16] := nbk.put hk ha _
  show xX G l _ _ _ 70 _ _ (xup M a (.inr (3, [.ref (N), .ref (N + 7), .ref (N + 9), .ref (N + 11), .ref (N + 13), .ref (N + 15), .null, .null, .null, .null]))) _ _
  generalize xup M a _ = M at hk ⊢
  refine x_aload_n (q := 71) dX0_init_70 rfl rfl ?_
  refine x_new (q := 74) (fs := [.int 0, .int 0, .null]) xclX2 nwX0_18 in1X2 in2X2 (fun j hj => by rcases (by omega : j = 0 ∨ j = 1 ∨ j = 2) with rfl | rfl | rfl <;> rfl) dX0_init_71 rfl (by omega) (by omega) (fun _ => ?_)
  refine x_dup (q := 75) dX0_init_74 rfl rfl ?_
  refine x_callIN (q := 78) (b := N + 17) (As := []) imX2_init rfl rfl ivX2_init mnX0_20 dX0_init_75 rfl rfl rfl (Nat.le_of_ble_eq_true rfl) ?_
  refine (k_X2 G l _ (xup M (N + 17) (.inr (5, [.int 0, .int 0, .null]))) (N + 17 + 1) (S + 155 + 3) (N + 17)  (xup_s _ _ _) (by omega) (by omega) (by omega)).mono (fun r9 M9 N9 S9 hp => ?_)
  obtain ⟨rfl, rfl, rfl, hc⟩ := hp
  have hk : nbk M0 M9 a N (.inr (3, [.ref (N), .ref (N + 7), .ref (N + 9), .ref (N + 11), .ref (N + 13), .ref (N + 15), .null, .null, .null, .null])) [.inr (6, [.ref (N + 1), .ref (N + 3), .ref (N + 5)]), .inr (5, [.int 0, .int 0, .ref (N + 2)]), iaZ 16, .inr (5, [.int 0, .int 0, .ref (N + 4)]), iaZ 16, .inr (5, [.int 0, .int 0, .ref (N + 6)]), iaZ 16, .inr (5, [.int 0, .int 0, .ref (N + 8)]), iaZ 16, .inr (5, [.int 0, .int 0, .ref (N + 10)]), iaZ 16, .inr (5, [.int 0, .int 0, .ref (N + 12)]), iaZ 16, .inr (5, [.int 0, .int 0, .ref (N + 14)]), iaZ 16, .inr (5, [.int 0, .int 0, .ref (N + 16)]), iaZ 16, .inr (5, [.int 0, .int 0, .ref (N + 18)]), iaZ 16] := nbk.sub hk ha rfl hc
  clear hc
  generalize M9 = M at hk ⊢
  show xX G l _ _ _ 78 _ _ M (N + 19) (S + 174)
  refine x_putF (q := 81) (v := .ref (N + 17)) (ty := .object "InfluenceRows$Big") xclX0 6 fwX0_37 (by decide) rfl rfl rfl dX0_init_78 rfl (by decide +kernel) rfl rfl (Nat.le_of_ble_eq_true rfl) hk.1 ?_
  have hk : nbk M0 (xup M a (.inr (3, [.ref (N), .ref (N + 7), .ref (N + 9), .ref (N + 11), .ref (N + 13), .ref (N + 15), .ref (N + 17), .null, .null, .null]))) a N (.inr (3, [.ref (N), .ref (N + 7), .ref (N + 9), .ref (N + 11), .ref (N + 13), .ref (N + 15), .ref (N + 17), .null, .null, .null])) [.inr (6, [.ref (N + 1), .ref (N + 3), .ref (N + 5)]), .inr (5, [.int 0, .int 0, .ref (N + 2)]), iaZ 16, .inr (5, [.int 0, .int 0, .ref (N + 4)]), iaZ 16, .inr (5, [.int 0, .int 0, .ref (N + 6)]), iaZ 16, .inr (5, [.int 0, .int 0, .ref (N + 8)]), iaZ 16, .inr (5, [.int 0, .int 0, .ref (N + 10)]), iaZ 16, .inr (5, [.int 0, .int 0, .ref (N + 12)]), iaZ 16, .inr (5, [.int 0, .int 0, .ref (N + 14)]), iaZ 16, .inr (5, [.int 0, .int 0, .ref (N + 16)]), iaZ 16, .inr (5, [.int 0, .int 0, .ref (N + 18)]), iaZ 16] := nbk.put hk ha _
  show xX G l _ _ _ 81 _ _ (xup M a (.inr (3, [.ref (N), .ref (N + 7), .ref (N + 9), .ref (N + 11), .ref (N + 13), .ref (N + 15), .ref (N + 17), .null, .null, .null]))) _ _
  generalize xup M a _ = M at hk ⊢
  refine x_aload_n (q := 82) dX0_init_81 rfl rfl ?_
  refine x_new (q := 85) (fs := [.int 0, .int 0, .null]) xclX2 nwX0_18 in1X2 in2X2 (fun j hj => by rcases (by omega : j = 0 ∨ j = 1 ∨ j = 2) with rfl | rfl | rfl <;> rfl) dX0_init_82 rfl (by omega) (by omega) (fun _ => ?_)
  refine x_dup (q := 86) dX0_init_85 rfl rfl ?_
  refine x_callIN (q := 89) (b := N + 19) (As := []) imX2_init rfl rfl ivX2_init mnX0_20 dX0_init_86 rfl rfl rfl (Nat.le_of_ble_eq_true rfl) ?_
  refine (k_X2 G l _ (xup M (N + 19) (.inr (5, [.int 0, .int 0, .null]))) (N + 19 + 1) (S + 174 + 3) (N + 19)  (xup_s _ _ _) (by omega) (by omega) (by omega)).mono (fun r9 M9 N9 S9 hp => ?_)
  obtain ⟨rfl, rfl, rfl, hc⟩ := hp
  have hk : nbk M0 M9 a N (.inr (3, [.ref (N), .ref (N + 7), .ref (N + 9), .ref (N + 11), .ref (N + 13), .ref (N + 15), .ref (N + 17), .null, .null, .null])) [.inr (6, [.ref (N + 1), .ref (N + 3), .ref (N + 5)]), .inr (5, [.int 0, .int 0, .ref (N + 2)]), iaZ 16, .inr (5, [.int 0, .int 0, .ref (N + 4)]), iaZ 16, .inr (5, [.int 0, .int 0, .ref (N + 6)]), iaZ 16, .inr (5, [.int 0, .int 0, .ref (N + 8)]), iaZ 16, .inr (5, [.int 0, .int 0, .ref (N + 10)]), iaZ 16, .inr (5, [.int 0, .int 0, .ref (N + 12)]), iaZ 16, .inr (5, [.int 0, .int 0, .ref (N + 14)]), iaZ 16, .inr (5, [.int 0, .int 0, .ref (N + 16)]), iaZ 16, .inr (5, [.int 0, .int 0, .ref (N + 18)]), iaZ 16, .inr (5, [.int 0, .int 0, .ref (N + 20)]), iaZ 16] := nbk.sub hk ha rfl hc
  clear hc
  generalize M9 = M at hk ⊢
  show xX G l _ _ _ 89 _ _ M (N + 21) (S + 193)
  refine x_putF (q := 92) (v := .ref (N + 19)) (ty := .object "InfluenceRows$Big") xclX0 7 fwX0_40 (by decide) rfl rfl rfl dX0_init_89 rfl (by decide +kernel) rfl rfl (Nat.le_of_ble_eq_true rfl) hk.1 ?_
  have hk : nbk M0 (xup M a (.inr (3, [.ref (N), .ref (N + 7), .ref (N + 9), .ref (N + 11), .ref (N + 13), .ref (N + 15), .ref (N + 17), .ref (N + 19), .null, .null]))) a N (.inr (3, [.ref (N), .ref (N + 7), .ref (N + 9), .ref (N + 11), .ref (N + 13), .ref (N + 15), .ref (N + 17), .ref (N + 19), .null, .null])) [.inr (6, [.ref (N + 1), .ref (N + 3), .ref (N + 5)]), .inr (5, [.int 0, .int 0, .ref (N + 2)]), iaZ 16, .inr (5, [.int 0, .int 0, .ref (N + 4)]), iaZ 16, .inr (5, [.int 0, .int 0, .ref (N + 6)]), iaZ 16, .inr (5, [.int 0, .int 0, .ref (N + 8)]), iaZ 16, .inr (5, [.int 0, .int 0, .ref (N + 10)]), iaZ 16, .inr (5, [.int 0, .int 0, .ref (N + 12)]), iaZ 16, .inr (5, [.int 0, .int 0, .ref (N + 14)]), iaZ 16, .inr (5, [.int 0, .int 0, .ref (N + 16)]), iaZ 16, .inr (5, [.int 0, .int 0, .ref (N + 18)]), iaZ 16, .inr (5, [.int 0, .int 0, .ref (N + 20)]), iaZ 16] := nbk.put hk ha _
  show xX G l _ _ _ 92 _ _ (xup M a (.inr (3, [.ref (N), .ref (N + 7), .ref (N + 9), .ref (N + 11), .ref (N + 13), .ref (N + 15), .ref (N + 17), .ref (N + 19), .null, .null]))) _ _
  generalize xup M a _ = M at hk ⊢
  refine x_aload_n (q := 93) dX0_init_92 rfl rfl ?_
  refine x_new (q := 96) (fs := [.int 0, .int 0, .null]) xclX2 nwX0_18 in1X2 in2X2 (fun j hj => by rcases (by omega : j = 0 ∨ j = 1 ∨ j = 2) with rfl | rfl | rfl <;> rfl) dX0_init_93 rfl (by omega) (by omega) (fun _ => ?_)
  refine x_dup (q := 97) dX0_init_96 rfl rfl ?_
  refine x_callIN (q := 100) (b := N + 21) (As := []) imX2_init rfl rfl ivX2_init mnX0_20 dX0_init_97 rfl rfl rfl (Nat.le_of_ble_eq_true rfl) ?_
  refine (k_X2 G l _ (xup M (N + 21) (.inr (5, [.int 0, .int 0, .null]))) (N + 21 + 1) (S + 193 + 3) (N + 21)  (xup_s _ _ _) (by omega) (by omega) (by omega)).mono (fun r9 M9 N9 S9 hp => ?_)
  obtain ⟨rfl, rfl, rfl, hc⟩ := hp
  have hk : nbk M0 M9 a N (.inr (3, [.ref (N), .ref (N + 7), .ref (N + 9), .ref (N + 11), .ref (N + 13), .ref (N + 15), .ref (N + 17), .ref (N + 19), .null, .null])) [.inr (6, [.ref (N + 1), .ref (N + 3), .ref (N + 5)]), .inr (5, [.int 0, .int 0, .ref (N + 2)]), iaZ 16, .inr (5, [.int 0, .int 0, .ref (N + 4)]), iaZ 16, .inr (5, [.int 0, .int 0, .ref (N + 6)]), iaZ 16, .inr (5, [.int 0, .int 0, .ref (N + 8)]), iaZ 16, .inr (5, [.int 0, .int 0, .ref (N + 10)]), iaZ 16, .inr (5, [.int 0, .int 0, .ref (N + 12)]), iaZ 16, .inr (5, [.int 0, .int 0, .ref (N + 14)]), iaZ 16, .inr (5, [.int 0, .int 0, .ref (N + 16)]), iaZ 16, .inr (5, [.int 0, .int 0, .ref (N + 18)]), iaZ 16, .inr (5, [.int 0, .int 0, .ref (N + 20)]), iaZ 16, .inr (5, [.int 0, .int 0, .ref (N + 22)]), iaZ 16] := nbk.sub hk ha rfl hc
  clear hc
  generalize M9 = M at hk ⊢
  show xX G l _ _ _ 100 _ _ M (N + 23) (S + 212)
  refine x_putF (q := 103) (v := .ref (N + 21)) (ty := .object "InfluenceRows$Big") xclX0 8 fwX0_43 (by decide) rfl rfl rfl dX0_init_100 rfl (by decide +kernel) rfl rfl (Nat.le_of_ble_eq_true rfl) hk.1 ?_
  have hk : nbk M0 (xup M a (.inr (3, [.ref (N), .ref (N + 7), .ref (N + 9), .ref (N + 11), .ref (N + 13), .ref (N + 15), .ref (N + 17), .ref (N + 19), .ref (N + 21), .null]))) a N (.inr (3, [.ref (N), .ref (N + 7), .ref (N + 9), .ref (N + 11), .ref (N + 13), .ref (N + 15), .ref (N + 17), .ref (N + 19), .ref (N + 21), .null])) [.inr (6, [.ref (N + 1), .ref (N + 3), .ref (N + 5)]), .inr (5, [.int 0, .int 0, .ref (N + 2)]), iaZ 16, .inr (5, [.int 0, .int 0, .ref (N + 4)]), iaZ 16, .inr (5, [.int 0, .int 0, .ref (N + 6)]), iaZ 16, .inr (5, [.int 0, .int 0, .ref (N + 8)]), iaZ 16, .inr (5, [.int 0, .int 0, .ref (N + 10)]), iaZ 16, .inr (5, [.int 0, .int 0, .ref (N + 12)]), iaZ 16, .inr (5, [.int 0, .int 0, .ref (N + 14)]), iaZ 16, .inr (5, [.int 0, .int 0, .ref (N + 16)]), iaZ 16, .inr (5, [.int 0, .int 0, .ref (N + 18)]), iaZ 16, .inr (5, [.int 0, .int 0, .ref (N + 20)]), iaZ 16, .inr (5, [.int 0, .int 0, .ref (N + 22)]), iaZ 16] := nbk.put hk ha _
  show xX G l _ _ _ 103 _ _ (xup M a (.inr (3, [.ref (N), .ref (N + 7), .ref (N + 9), .ref (N + 11), .ref (N + 13), .ref (N + 15), .ref (N + 17), .ref (N + 19), .ref (N + 21), .null]))) _ _
  generalize xup M a _ = M at hk ⊢
  refine x_aload_n (q := 104) dX0_init_103 rfl rfl ?_
  refine x_new (q := 107) (fs := [.int 0, .int 0, .null]) xclX2 nwX0_18 in1X2 in2X2 (fun j hj => by rcases (by omega : j = 0 ∨ j = 1 ∨ j = 2) with rfl | rfl | rfl <;> rfl) dX0_init_104 rfl (by omega) (by omega) (fun _ => ?_)
  refine x_dup (q := 108) dX0_init_107 rfl rfl ?_
  refine x_callIN (q := 111) (b := N + 23) (As := []) imX2_init rfl rfl ivX2_init mnX0_20 dX0_init_108 rfl rfl rfl (Nat.le_of_ble_eq_true rfl) ?_
  refine (k_X2 G l _ (xup M (N + 23) (.inr (5, [.int 0, .int 0, .null]))) (N + 23 + 1) (S + 212 + 3) (N + 23)  (xup_s _ _ _) (by omega) (by omega) (by omega)).mono (fun r9 M9 N9 S9 hp => ?_)
  obtain ⟨rfl, rfl, rfl, hc⟩ := hp
  have hk : nbk M0 M9 a N (.inr (3, [.ref (N), .ref (N + 7), .ref (N + 9), .ref (N + 11), .ref (N + 13), .ref (N + 15), .ref (N + 17), .ref (N + 19), .ref (N + 21), .null])) [.inr (6, [.ref (N + 1), .ref (N + 3), .ref (N + 5)]), .inr (5, [.int 0, .int 0, .ref (N + 2)]), iaZ 16, .inr (5, [.int 0, .int 0, .ref (N + 4)]), iaZ 16, .inr (5, [.int 0, .int 0, .ref (N + 6)]), iaZ 16, .inr (5, [.int 0, .int 0, .ref (N + 8)]), iaZ 16, .inr (5, [.int 0, .int 0, .ref (N + 10)]), iaZ 16, .inr (5, [.int 0, .int 0, .ref (N + 12)]), iaZ 16, .inr (5, [.int 0, .int 0, .ref (N + 14)]), iaZ 16, .inr (5, [.int 0, .int 0, .ref (N + 16)]), iaZ 16, .inr (5, [.int 0, .int 0, .ref (N + 18)]), iaZ 16, .inr (5, [.int 0, .int 0, .ref (N + 20)]), iaZ 16, .inr (5, [.int 0, .int 0, .ref (N + 22)]), iaZ 16, .inr (5, [.int 0, .int 0, .ref (N + 24)]), iaZ 16] := nbk.sub hk ha rfl hc
  clear hc
  generalize M9 = M at hk ⊢
  show xX G l _ _ _ 111 _ _ M (N + 25) (S + 231)
  refine x_putF (q := 114) (v := .ref (N + 23)) (ty := .object "InfluenceRows$Big") xclX0 9 fwX0_46 (by decide) rfl rfl rfl dX0_init_111 rfl (by decide +kernel) rfl rfl (Nat.le_of_ble_eq_true rfl) hk.1 ?_
  have hk : nbk M0 (xup M a (.inr (3, [.ref (N), .ref (N + 7), .ref (N + 9), .ref (N + 11), .ref (N + 13), .ref (N + 15), .ref (N + 17), .ref (N + 19), .ref (N + 21), .ref (N + 23)]))) a N (.inr (3, [.ref (N), .ref (N + 7), .ref (N + 9), .ref (N + 11), .ref (N + 13), .ref (N + 15), .ref (N + 17), .ref (N + 19), .ref (N + 21), .ref (N + 23)])) [.inr (6, [.ref (N + 1), .ref (N + 3), .ref (N + 5)]), .inr (5, [.int 0, .int 0, .ref (N + 2)]), iaZ 16, .inr (5, [.int 0, .int 0, .ref (N + 4)]), iaZ 16, .inr (5, [.int 0, .int 0, .ref (N + 6)]), iaZ 16, .inr (5, [.int 0, .int 0, .ref (N + 8)]), iaZ 16, .inr (5, [.int 0, .int 0, .ref (N + 10)]), iaZ 16, .inr (5, [.int 0, .int 0, .ref (N + 12)]), iaZ 16, .inr (5, [.int 0, .int 0, .ref (N + 14)]), iaZ 16, .inr (5, [.int 0, .int 0, .ref (N + 16)]), iaZ 16, .inr (5, [.int 0, .int 0, .ref (N + 18)]), iaZ 16, .inr (5, [.int 0, .int 0, .ref (N + 20)]), iaZ 16, .inr (5, [.int 0, .int 0, .ref (N + 22)]), iaZ 16, .inr (5, [.int 0, .int 0, .ref (N + 24)]), iaZ 16] := nbk.put hk ha _
  show xX G l _ _ _ 114 _ _ (xup M a (.inr (3, [.ref (N), .ref (N + 7), .ref (N + 9), .ref (N + 11), .ref (N + 13), .ref (N + 15), .ref (N + 17), .ref (N + 19), .ref (N + 21), .ref (N + 23)]))) _ _
  generalize xup M a _ = M at hk ⊢
  exact x_vret rfl dX0_init_114 ⟨rfl, rfl, rfl, hk⟩
set_option maxRecDepth 100000 in
set_option maxHeartbeats 4000000 in
theorem k_X5 (G : xG) (l : Launch) (d : Nat) (M0 : xM) (N S a : Nat) (p1 : Nat) (p2 : Nat) (hM : M0 a = some (.inr (8, [.null, .null, .null, .null, .null, .null, .int 0, .int 0, .int 0, .int 0, .int 0, .long 0, .long 0]))) (ha : a < N) (hN : N + 5 ≤ G.2.2.2.2.1) (hS : S + 43 ≤ G.2.2.2.2.2) : xC G l YX5_init (d + 2) [.ref a, .ref p1, .ref p2] M0 N S (fun r M N' S' => r = none ∧ N' = N + 5 ∧ S' = S + 43 ∧ nbk M0 M a N (.inr (8, [.ref (p1), .ref (p2), .ref (N), .ref (N + 1), .ref (N + 2), .ref (N + 3), .int 0, .int 0, .int 0, .int 0, .int 0, .long 0, .long 0])) [laZ 10, laZ 10, zaZ 4, .inr (5, [.int 0, .int 0, .ref (N + 4)]), iaZ 16]) := by
  refine xC.of (ls := [(0, .ref a), (1, .ref p1), (2, .ref p2)]) (by decide) (Nat.le_of_ble_eq_true rfl) rfl ?_
  have hk : nbk M0 M0 a N (.inr (8, [.null, .null, .null, .null, .null, .null, .int 0, .int 0, .int 0, .int 0, .int 0, .long 0, .long 0])) [] := nbk0 hM
  suffices h : ∀ M : xM, nbk M0 M a N (.inr (8, [.null, .null, .null, .null, .null, .null, .int 0, .int 0, .int 0, .int 0, .int 0, .long 0, .long 0])) [] → xX G l YX5_init (d + 2) _ 0 [(0, .ref a), (1, .ref p1), (2, .ref p2)] [] M N S from h M0 hk
  clear hk; intro M hk
  refine x_aload_n (q := 1) dX5_init_0 rfl rfl ?_
  refine x_objInit (q := 4) owX5_3 oi1 oi2 dX5_init_1 rfl (Nat.le_of_ble_eq_true rfl) ?_
  refine x_aload_n (q := 5) dX5_init_4 rfl rfl ?_
  refine xn_bipush (q := 7) 10 dX5_init_5 rfl (by decide) ?_
  refine x_newa (q := 9) (at0 := .long) (ty := .long) (n := 10) (a0 := (10, .inr (.inl (fun _ => 0)))) 1 rfl rfl (fun C h => by cases h) ac_long (fun cA => rfl) (by decide) (by decide) (by decide) dX5_init_7 rfl (by omega) (by omega) (fun _ => ?_)
  have hk : nbk M0 (xup M (N) (laZ 10)) a N (.inr (8, [.null, .null, .null, .null, .null, .null, .int 0, .int 0, .int 0, .int 0, .int 0, .long 0, .long 0])) [laZ 10] := nbk.arr hk ha rfl _
  generalize xup M (N) _ = M at hk ⊢
  show xX G l _ _ _ 9 _ _ M (N + 1) (S + 10)
  refine x_putF (q := 12) (v := .ref (N)) (ty := .array .long) xclX5 2 fwX5_11 (by decide) rfl rfl rfl dX5_init_9 rfl (by decide +kernel) rfl rfl (Nat.le_of_ble_eq_true rfl) hk.1 ?_
  have hk : nbk M0 (xup M a (.inr (8, [.null, .null, .ref (N), .null, .null, .null, .int 0, .int 0, .int 0, .int 0, .int 0, .long 0, .long 0]))) a N (.inr (8, [.null, .null, .ref (N), .null, .null, .null, .int 0, .int 0, .int 0, .int 0, .int 0, .long 0, .long 0])) [laZ 10] := nbk.put hk ha _
  show xX G l _ _ _ 12 _ _ (xup M a (.inr (8, [.null, .null, .ref (N), .null, .null, .null, .int 0, .int 0, .int 0, .int 0, .int 0, .long 0, .long 0]))) _ _
  generalize xup M a _ = M at hk ⊢
  refine x_aload_n (q := 13) dX5_init_12 rfl rfl ?_
  refine xn_bipush (q := 15) 10 dX5_init_13 rfl (by decide) ?_
  refine x_newa (q := 17) (at0 := .long) (ty := .long) (n := 10) (a0 := (10, .inr (.inl (fun _ => 0)))) 1 rfl rfl (fun C h => by cases h) ac_long (fun cA => rfl) (by decide) (by decide) (by decide) dX5_init_15 rfl (by omega) (by omega) (fun _ => ?_)
  have hk : nbk M0 (xup M (N + 1) (laZ 10)) a N (.inr (8, [.null, .null, .ref (N), .null, .null, .null, .int 0, .int 0, .int 0, .int 0, .int 0, .long 0, .long 0])) [laZ 10, laZ 10] := nbk.arr hk ha rfl _
  generalize xup M (N + 1) _ = M at hk ⊢
  show xX G l _ _ _ 17 _ _ M (N + 2) (S + 20)
  refine x_putF (q := 20) (v := .ref (N + 1)) (ty := .array .long) xclX5 3 fwX5_17 (by decide) rfl rfl rfl dX5_init_17 rfl (by decide +kernel) rfl rfl (Nat.le_of_ble_eq_true rfl) hk.1 ?_
  have hk : nbk M0 (xup M a (.inr (8, [.null, .null, .ref (N), .ref (N + 1), .null, .null, .int 0, .int 0, .int 0, .int 0, .int 0, .long 0, .long 0]))) a N (.inr (8, [.null, .null, .ref (N), .ref (N + 1), .null, .null, .int 0, .int 0, .int 0, .int 0, .int 0, .long 0, .long 0])) [laZ 10, laZ 10] := nbk.put hk ha _
  show xX G l _ _ _ 20 _ _ (xup M a (.inr (8, [.null, .null, .ref (N), .ref (N + 1), .null, .null, .int 0, .int 0, .int 0, .int 0, .int 0, .long 0, .long 0]))) _ _
  generalize xup M a _ = M at hk ⊢
  refine x_aload_n (q := 21) dX5_init_20 rfl rfl ?_
  refine xn_iconst (q := 22) 4 dX5_init_21 rfl (by decide) ?_
  refine x_newa (q := 24) (at0 := .boolean) (ty := .boolean) (n := 4) (a0 := (4, .inl (fun _ => 0))) 2 rfl rfl (fun C h => by cases h) ac_boolean (fun cA => rfl) (by decide) (by decide) (by decide) dX5_init_22 rfl (by omega) (by omega) (fun _ => ?_)
  have hk : nbk M0 (xup M (N + 2) (zaZ 4)) a N (.inr (8, [.null, .null, .ref (N), .ref (N + 1), .null, .null, .int 0, .int 0, .int 0, .int 0, .int 0, .long 0, .long 0])) [laZ 10, laZ 10, zaZ 4] := nbk.arr hk ha rfl _
  generalize xup M (N + 2) _ = M at hk ⊢
  show xX G l _ _ _ 24 _ _ M (N + 3) (S + 24)
  refine x_putF (q := 27) (v := .ref (N + 2)) (ty := .array .boolean) xclX5 4 fwX5_22 (by decide) rfl rfl rfl dX5_init_24 rfl (by decide +kernel) rfl rfl (Nat.le_of_ble_eq_true rfl) hk.1 ?_
  have hk : nbk M0 (xup M a (.inr (8, [.null, .null, .ref (N), .ref (N + 1), .ref (N + 2), .null, .int 0, .int 0, .int 0, .int 0, .int 0, .long 0, .long 0]))) a N (.inr (8, [.null, .null, .ref (N), .ref (N + 1), .ref (N + 2), .null, .int 0, .int 0, .int 0, .int 0, .int 0, .long 0, .long 0])) [laZ 10, laZ 10, zaZ 4] := nbk.put hk ha _
  show xX G l _ _ _ 27 _ _ (xup M a (.inr (8, [.null, .null, .ref (N), .ref (N + 1), .ref (N + 2), .null, .int 0, .int 0, .int 0, .int 0, .int 0, .long 0, .long 0]))) _ _
  generalize xup M a _ = M at hk ⊢
  refine x_aload_n (q := 28) dX5_init_27 rfl rfl ?_
  refine x_new (q := 31) (fs := [.int 0, .int 0, .null]) xclX2 nwX5_26 in1X2 in2X2 (fun j hj => by rcases (by omega : j = 0 ∨ j = 1 ∨ j = 2) with rfl | rfl | rfl <;> rfl) dX5_init_28 rfl (by omega) (by omega) (fun _ => ?_)
  refine x_dup (q := 32) dX5_init_31 rfl rfl ?_
  refine x_callIN (q := 35) (b := N + 3) (As := []) imX2_init rfl rfl ivX2_init mnX5_28 dX5_init_32 rfl rfl rfl (Nat.le_of_ble_eq_true rfl) ?_
  refine (k_X2 G l _ (xup M (N + 3) (.inr (5, [.int 0, .int 0, .null]))) (N + 3 + 1) (S + 24 + 3) (N + 3)  (xup_s _ _ _) (by omega) (by omega) (by omega)).mono (fun r9 M9 N9 S9 hp => ?_)
  obtain ⟨rfl, rfl, rfl, hc⟩ := hp
  have hk : nbk M0 M9 a N (.inr (8, [.null, .null, .ref (N), .ref (N + 1), .ref (N + 2), .null, .int 0, .int 0, .int 0, .int 0, .int 0, .long 0, .long 0])) [laZ 10, laZ 10, zaZ 4, .inr (5, [.int 0, .int 0, .ref (N + 4)]), iaZ 16] := nbk.sub hk ha rfl hc
  clear hc
  generalize M9 = M at hk ⊢
  show xX G l _ _ _ 35 _ _ M (N + 5) (S + 43)
  refine x_putF (q := 38) (v := .ref (N + 3)) (ty := .object "InfluenceRows$Big") xclX5 5 fwX5_29 (by decide) rfl rfl rfl dX5_init_35 rfl (by decide +kernel) rfl rfl (Nat.le_of_ble_eq_true rfl) hk.1 ?_
  have hk : nbk M0 (xup M a (.inr (8, [.null, .null, .ref (N), .ref (N + 1), .ref (N + 2), .ref (N + 3), .int 0, .int 0, .int 0, .int 0, .int 0, .long 0, .long 0]))) a N (.inr (8, [.null, .null, .ref (N), .ref (N + 1), .ref (N + 2), .ref (N + 3), .int 0, .int 0, .int 0, .int 0, .int 0, .long 0, .long 0])) [laZ 10, laZ 10, zaZ 4, .inr (5, [.int 0, .int 0, .ref (N + 4)]), iaZ 16] := nbk.put hk ha _
  show xX G l _ _ _ 38 _ _ (xup M a (.inr (8, [.null, .null, .ref (N), .ref (N + 1), .ref (N + 2), .ref (N + 3), .int 0, .int 0, .int 0, .int 0, .int 0, .long 0, .long 0]))) _ _
  generalize xup M a _ = M at hk ⊢
  refine x_aload_n (q := 39) dX5_init_38 rfl rfl ?_
  refine x_aload_n (q := 40) dX5_init_39 rfl rfl ?_
  refine x_putF (q := 43) (v := .ref (p1)) (ty := .object "InfluenceRows$Beams") xclX5 0 fwX5_33 (by decide) rfl rfl rfl dX5_init_40 rfl (by decide +kernel) rfl rfl (Nat.le_of_ble_eq_true rfl) hk.1 ?_
  have hk : nbk M0 (xup M a (.inr (8, [.ref (p1), .null, .ref (N), .ref (N + 1), .ref (N + 2), .ref (N + 3), .int 0, .int 0, .int 0, .int 0, .int 0, .long 0, .long 0]))) a N (.inr (8, [.ref (p1), .null, .ref (N), .ref (N + 1), .ref (N + 2), .ref (N + 3), .int 0, .int 0, .int 0, .int 0, .int 0, .long 0, .long 0])) [laZ 10, laZ 10, zaZ 4, .inr (5, [.int 0, .int 0, .ref (N + 4)]), iaZ 16] := nbk.put hk ha _
  show xX G l _ _ _ 43 _ _ (xup M a (.inr (8, [.ref (p1), .null, .ref (N), .ref (N + 1), .ref (N + 2), .ref (N + 3), .int 0, .int 0, .int 0, .int 0, .int 0, .long 0, .long 0]))) _ _
  generalize xup M a _ = M at hk ⊢
  refine x_aload_n (q := 44) dX5_init_43 rfl rfl ?_
  refine x_aload_n (q := 45) dX5_init_44 rfl rfl ?_
  refine x_putF (q := 48) (v := .ref (p2)) (ty := .object "InfluenceRows$Frame") xclX5 1 fwX5_37 (by decide) rfl rfl rfl dX5_init_45 rfl (by decide +kernel) rfl rfl (Nat.le_of_ble_eq_true rfl) hk.1 ?_
  have hk : nbk M0 (xup M a (.inr (8, [.ref (p1), .ref (p2), .ref (N), .ref (N + 1), .ref (N + 2), .ref (N + 3), .int 0, .int 0, .int 0, .int 0, .int 0, .long 0, .long 0]))) a N (.inr (8, [.ref (p1), .ref (p2), .ref (N), .ref (N + 1), .ref (N + 2), .ref (N + 3), .int 0, .int 0, .int 0, .int 0, .int 0, .long 0, .long 0])) [laZ 10, laZ 10, zaZ 4, .inr (5, [.int 0, .int 0, .ref (N + 4)]), iaZ 16] := nbk.put hk ha _
  show xX G l _ _ _ 48 _ _ (xup M a (.inr (8, [.ref (p1), .ref (p2), .ref (N), .ref (N + 1), .ref (N + 2), .ref (N + 3), .int 0, .int 0, .int 0, .int 0, .int 0, .long 0, .long 0]))) _ _
  generalize xup M a _ = M at hk ⊢
  exact x_vret rfl dX5_init_48 ⟨rfl, rfl, rfl, hk⟩
def bigs (N : Nat) : Nat → List xE
  | 0 => []
  | k + 1 => bigs N k ++ [bgZ (N + 15 + 2 * k + 1), iaZ 16]
theorem bigs_len (N : Nat) : ∀ k, (bigs N k).length = 2 * k
  | 0 => rfl
  | k + 1 => by unfold bigs; rw [List.length_append, bigs_len N k]; show 2 * k + 2 = _; omega
set_option maxRecDepth 100000 in
set_option maxHeartbeats 4000000 in
theorem k_X4 (G : xG) (l : Launch) (d : Nat) (M0 : xM) (N S a : Nat) (p1 : Nat) (hM : M0 a = some (.inr (7, [.null, .null, .null, .null, .null, .null, .null, .null, .null, .null, .null, .null, .long 0, .int 0]))) (ha : a < N) (hN : N + 125 ≤ G.2.2.2.2.1) (hS : S + 1310 ≤ G.2.2.2.2.2) : xC G l YX4_init (d + 2) [.ref a, .ref p1] M0 N S (fun r M N' S' => r = none ∧ N' = N + 125 ∧ S' = S + 1310 ∧ ∃ f : Nat → Option Nat, (∀ j, j < 55 → f j = some (N + 15 + 2 * j)) ∧ nbk M0 M a N (.inr (7, [.ref (p1), .ref (N), .ref (N + 1), .ref (N + 2), .ref (N + 3), .ref (N + 4), .ref (N + 5), .ref (N + 6), .ref (N + 7), .ref (N + 9), .ref (N + 11), .ref (N + 13), .long 0, .int 0])) ([iaZ 4, iaZ 6, zaZ 10, zaZ 10, zaZ 4, laZ 100, .inl (.object RX2, 55, .inr (.inr (.inr (.inr f)))), .inr (5, [.int 0, .int 0, .ref (N + 8)]), iaZ 16, .inr (5, [.int 0, .int 0, .ref (N + 10)]), iaZ 16, .inr (5, [.int 0, .int 0, .ref (N + 12)]), iaZ 16, .inr (5, [.int 0, .int 0, .ref (N + 14)]), iaZ 16] ++ bigs N 55)) := by
  refine xC.of (ls := [(0, .ref a), (1, .ref p1)]) (by decide) (Nat.le_of_ble_eq_true rfl) rfl ?_
  have loop : ∀ (u k : Nat) (M : xM) (f : Nat → Option Nat), k + u = 55 → nbk M0 M a N (.inr (7, [.ref (p1), .ref (N), .ref (N + 1), .ref (N + 2), .ref (N + 3), .ref (N + 4), .ref (N + 5), .ref (N + 6), .ref (N + 7), .ref (N + 9), .ref (N + 11), .ref (N + 13), .long 0, .int 0])) ([iaZ 4, iaZ 6, zaZ 10, zaZ 10, zaZ 4, laZ 100, .inl (.object RX2, 55, .inr (.inr (.inr (.inr f)))), .inr (5, [.int 0, .int 0, .ref (N + 8)]), iaZ 16, .inr (5, [.int 0, .int 0, .ref (N + 10)]), iaZ 16, .inr (5, [.int 0, .int 0, .ref (N + 12)]), iaZ 16, .inr (5, [.int 0, .int 0, .ref (N + 14)]), iaZ 16] ++ bigs N k) → (∀ j, j < k → f j = some (N + 15 + 2 * j)) → xX G l YX4_init (d + 2) (fun r M N' S' => r = none ∧ N' = N + 125 ∧ S' = S + 1310 ∧ ∃ f : Nat → Option Nat, (∀ j, j < 55 → f j = some (N + 15 + 2 * j)) ∧ nbk M0 M a N (.inr (7, [.ref (p1), .ref (N), .ref (N + 1), .ref (N + 2), .ref (N + 3), .ref (N + 4), .ref (N + 5), .ref (N + 6), .ref (N + 7), .ref (N + 9), .ref (N + 11), .ref (N + 13), .long 0, .int 0])) ([iaZ 4, iaZ 6, zaZ 10, zaZ 10, zaZ 4, laZ 100, .inl (.object RX2, 55, .inr (.inr (.inr (.inr f)))), .inr (5, [.int 0, .int 0, .ref (N + 8)]), iaZ 16, .inr (5, [.int 0, .int 0, .ref (N + 10)]), iaZ 16, .inr (5, [.int 0, .int 0, .ref (N + 12)]), iaZ 16, .inr (5, [.int 0, .int 0, .ref (N + 14)]), iaZ 16] ++ bigs N 55)) 110 [(0, .ref a), (1, .ref p1), (2, .int (nI k))] [] M (N + 15 + 2 * k) (S + 265 + 19 * k) := by
    intro u
    induction u with
    | zero =>
      intro k M f hku hk hf
      refine x_iload_n (q := 111) dX4_init_110 rfl rfl ?_
      refine x_aload_n (q := 112) dX4_init_111 rfl rfl ?_
      refine x_get (q := 115) xclX4 7 fwX4_36 (by decide) dX4_init_112 rfl hk.1 rfl ?_
      refine x_alen (q := 116) (nI 55) 3 dX4_init_115 rfl (nbk.at hk 6 rfl) rfl rfl ?_
      refine xn_icmp_ge (q := 119) 138 dX4_init_116 (by decide) rfl (by omega) (by decide) (fun _ => ?_) (fun h => absurd h (by omega))
      have e : k = 55 := by omega
      subst e
      exact x_vret rfl dX4_init_138 ⟨rfl, by omega, by omega, f, hf, hk⟩
    | succ u ih =>
      intro k M f hku hk hf
      refine x_iload_n (q := 111) dX4_init_110 rfl rfl ?_
      refine x_aload_n (q := 112) dX4_init_111 rfl rfl ?_
      refine x_get (q := 115) xclX4 7 fwX4_36 (by decide) dX4_init_112 rfl hk.1 rfl ?_
      refine x_alen (q := 116) (nI 55) 3 dX4_init_115 rfl (nbk.at hk 6 rfl) rfl rfl ?_
      refine xn_icmp_ge (q := 119) 138 dX4_init_116 (by decide) rfl (by omega) (by decide) (fun h => absurd h (by omega)) (fun _ => ?_)
      refine x_aload_n (q := 120) dX4_init_119 rfl rfl ?_
      refine x_get (q := 123) xclX4 7 fwX4_36 (by decide) dX4_init_120 rfl hk.1 rfl ?_
      refine x_iload_n (q := 124) dX4_init_123 rfl rfl ?_
      refine x_new (q := 127) (fs := [.int 0, .int 0, .null]) xclX2 nwX4_34 in1X2 in2X2 (fun j hj => by rcases (by omega : j = 0 ∨ j = 1 ∨ j = 2) with rfl | rfl | rfl <;> rfl) dX4_init_124 rfl (by omega) (by omega) (fun _ => ?_)
      refine x_dup (q := 128) dX4_init_127 rfl rfl ?_
      refine x_callIN (q := 131) (b := N + 15 + 2 * k) (As := []) imX2_init rfl rfl ivX2_init mnX4_40 dX4_init_128 rfl rfl rfl (Nat.le_of_ble_eq_true rfl) ?_
      refine (k_X2 G l _ (xup M (N + 15 + 2 * k) (.inr (5, [.int 0, .int 0, .null]))) (N + 15 + 2 * k + 1) (S + 265 + 19 * k + 3) (N + 15 + 2 * k) (xup_s _ _ _) (by omega) (by omega) (by omega)).mono (fun r9 M9 N9 S9 hp => ?_)
      obtain ⟨rfl, rfl, rfl, hc⟩ := hp
      have hlen : ([iaZ 4, iaZ 6, zaZ 10, zaZ 10, zaZ 4, laZ 100, .inl (.object RX2, 55, .inr (.inr (.inr (.inr f)))), .inr (5, [.int 0, .int 0, .ref (N + 8)]), iaZ 16, .inr (5, [.int 0, .int 0, .ref (N + 10)]), iaZ 16, .inr (5, [.int 0, .int 0, .ref (N + 12)]), iaZ 16, .inr (5, [.int 0, .int 0, .ref (N + 14)]), iaZ 16] ++ bigs N k).length = 15 + 2 * k := by rw [List.length_append, bigs_len]; rfl
      have hc' : nbk (xup M (N + (15 + 2 * k)) (.inr (5, [.int 0, .int 0, .null]))) M9 (N + (15 + 2 * k)) (N + (15 + 2 * k) + 1) (bgZ (N + 15 + 2 * k + 1)) [iaZ 16] := by
        rw [show N + (15 + 2 * k) = N + 15 + 2 * k by omega]; exact hc
      have hk := nbk.sub hk ha hlen hc'
      have hbig : M9 (N + 15 + 2 * k) = some (bgZ (N + 15 + 2 * k + 1)) := hc.1
      clear hc hc'
      show xX G l _ _ _ 131 _ _ M9 _ _
      refine x_aast (q := 132) (a := N + 6) (n := 55) (f := f) 5 xciX2 dX4_init_131 rfl (nbk.at hk 6 rfl) (vp_in_nI (by omega) (by decide)) hbig ?_
      have hk := nbk.set hk ha 6 (by rw [List.length_append, hlen]; show 6 < 15 + 2 * k + 2; omega) (.inl (.object RX2, 55, .inr (.inr (.inr (.inr (va_up f (nI k).toNatClampNeg (some (N + 15 + 2 * k))))))))
      refine xn_iinc (q := 135) (ls' := [(0, _), (1, _), (2, _)]) [1, 2, 0] 1 dX4_init_132 rfl rfl (by decide) (by decide) rfl ?_
      refine x_goto 110 dX4_init_135 (by decide) ?_
      have := ih (k + 1) _ (va_up f (nI k).toNatClampNeg (some (N + 15 + 2 * k))) (by omega) (by
        have e1 : ([iaZ 4, iaZ 6, zaZ 10, zaZ 10, zaZ 4, laZ 100, .inl (.object RX2, 55, .inr (.inr (.inr (.inr f)))), .inr (5, [.int 0, .int 0, .ref (N + 8)]), iaZ 16, .inr (5, [.int 0, .int 0, .ref (N + 10)]), iaZ 16, .inr (5, [.int 0, .int 0, .ref (N + 12)]), iaZ 16, .inr (5, [.int 0, .int 0, .ref (N + 14)]), iaZ 16] ++ bigs N k ++ bgZ (N + 15 + 2 * k + 1) :: [iaZ 16]).set 6 (.inl (.object RX2, 55, .inr (.inr (.inr (.inr (va_up f (nI k).toNatClampNeg (some (N + 15 + 2 * k)))))))) = [iaZ 4, iaZ 6, zaZ 10, zaZ 10, zaZ 4, laZ 100, .inl (.object RX2, 55, .inr (.inr (.inr (.inr (va_up f (nI k).toNatClampNeg (some (N + 15 + 2 * k))))))), .inr (5, [.int 0, .int 0, .ref (N + 8)]), iaZ 16, .inr (5, [.int 0, .int 0, .ref (N + 10)]), iaZ 16, .inr (5, [.int 0, .int 0, .ref (N + 12)]), iaZ 16, .inr (5, [.int 0, .int 0, .ref (N + 14)]), iaZ 16] ++ bigs N (k + 1) := by
          rw [show bigs N (k + 1) = bigs N k ++ [bgZ (N + 15 + 2 * k + 1), iaZ 16] from rfl, List.append_assoc]
          rfl
        rw [e1] at hk
        exact hk) (fun j hj => by
        rw [nI_clamp (by omega)]
        unfold va_up
        by_cases e : j = k
        · rw [if_pos e, e]
        · rw [if_neg e]; exact hf j (by omega))
      rw [show N + 15 + 2 * (k + 1) = N + 15 + 2 * k + 1 + 1 by omega, show S + 265 + 19 * (k + 1) = S + 265 + 19 * k + 3 + 16 by omega] at this
      exact this
  have hk : nbk M0 M0 a N (.inr (7, [.null, .null, .null, .null, .null, .null, .null, .null, .null, .null, .null, .null, .long 0, .int 0])) [] := nbk0 hM
  suffices h : ∀ M : xM, nbk M0 M a N (.inr (7, [.null, .null, .null, .null, .null, .null, .null, .null, .null, .null, .null, .null, .long 0, .int 0])) [] → xX G l YX4_init (d + 2) _ 0 [(0, .ref a), (1, .ref p1)] [] M N S from h M0 hk
  clear hk; intro M hk
  refine x_aload_n (q := 1) dX4_init_0 rfl rfl ?_
  refine x_objInit (q := 4) owX4_3 oi1 oi2 dX4_init_1 rfl (Nat.le_of_ble_eq_true rfl) ?_
  refine x_aload_n (q := 5) dX4_init_4 rfl rfl ?_
  refine xn_iconst (q := 6) 4 dX4_init_5 rfl (by decide) ?_
  refine x_newa (q := 8) (at0 := .int) (ty := .int) (n := 4) (a0 := (4, .inl (fun _ => 0))) 0 rfl rfl (fun C h => by cases h) ac_int (fun cA => rfl) (by decide) (by decide) (by decide) dX4_init_6 rfl (by omega) (by omega) (fun _ => ?_)
  have hk : nbk M0 (xup M (N) (iaZ 4)) a N (.inr (7, [.null, .null, .null, .null, .null, .null, .null, .null, .null, .null, .null, .null, .long 0, .int 0])) [iaZ 4] := nbk.arr hk ha rfl _
  generalize xup M (N) _ = M at hk ⊢
  show xX G l _ _ _ 8 _ _ M (N + 1) (S + 4)
  refine x_putF (q := 11) (v := .ref (N)) (ty := .array .int) xclX4 1 fwX4_9 (by decide) rfl rfl rfl dX4_init_8 rfl (by decide +kernel) rfl rfl (Nat.le_of_ble_eq_true rfl) hk.1 ?_
  have hk : nbk M0 (xup M a (.inr (7, [.null, .ref (N), .null, .null, .null, .null, .null, .null, .null, .null, .null, .null, .long 0, .int 0]))) a N (.inr (7, [.null, .ref (N), .null, .null, .null, .null, .null, .null, .null, .null, .null, .null, .long 0, .int 0])) [iaZ 4] := nbk.put hk ha _
  show xX G l _ _ _ 11 _ _ (xup M a (.inr (7, [.null, .ref (N), .null, .null, .null, .null, .null, .null, .null, .null, .null, .null, .long 0, .int 0]))) _ _
  generalize xup M a _ = M at hk ⊢
  refine x_aload_n (q := 12) dX4_init_11 rfl rfl ?_
  refine xn_bipush (q := 14) 6 dX4_init_12 rfl (by decide) ?_
  refine x_newa (q := 16) (at0 := .int) (ty := .int) (n := 6) (a0 := (6, .inl (fun _ => 0))) 0 rfl rfl (fun C h => by cases h) ac_int (fun cA => rfl) (by decide) (by decide) (by decide) dX4_init_14 rfl (by omega) (by omega) (fun _ => ?_)
  have hk : nbk M0 (xup M (N + 1) (iaZ 6)) a N (.inr (7, [.null, .ref (N), .null, .null, .null, .null, .null, .null, .null, .null, .null, .null, .long 0, .int 0])) [iaZ 4, iaZ 6] := nbk.arr hk ha rfl _
  generalize xup M (N + 1) _ = M at hk ⊢
  show xX G l _ _ _ 16 _ _ M (N + 2) (S + 10)
  refine x_putF (q := 19) (v := .ref (N + 1)) (ty := .array .int) xclX4 2 fwX4_17 (by decide) rfl rfl rfl dX4_init_16 rfl (by decide +kernel) rfl rfl (Nat.le_of_ble_eq_true rfl) hk.1 ?_
  have hk : nbk M0 (xup M a (.inr (7, [.null, .ref (N), .ref (N + 1), .null, .null, .null, .null, .null, .null, .null, .null, .null, .long 0, .int 0]))) a N (.inr (7, [.null, .ref (N), .ref (N + 1), .null, .null, .null, .null, .null, .null, .null, .null, .null, .long 0, .int 0])) [iaZ 4, iaZ 6] := nbk.put hk ha _
  show xX G l _ _ _ 19 _ _ (xup M a (.inr (7, [.null, .ref (N), .ref (N + 1), .null, .null, .null, .null, .null, .null, .null, .null, .null, .long 0, .int 0]))) _ _
  generalize xup M a _ = M at hk ⊢
  refine x_aload_n (q := 20) dX4_init_19 rfl rfl ?_
  refine xn_bipush (q := 22) 10 dX4_init_20 rfl (by decide) ?_
  refine x_newa (q := 24) (at0 := .boolean) (ty := .boolean) (n := 10) (a0 := (10, .inl (fun _ => 0))) 2 rfl rfl (fun C h => by cases h) ac_boolean (fun cA => rfl) (by decide) (by decide) (by decide) dX4_init_22 rfl (by omega) (by omega) (fun _ => ?_)
  have hk : nbk M0 (xup M (N + 2) (zaZ 10)) a N (.inr (7, [.null, .ref (N), .ref (N + 1), .null, .null, .null, .null, .null, .null, .null, .null, .null, .long 0, .int 0])) [iaZ 4, iaZ 6, zaZ 10] := nbk.arr hk ha rfl _
  generalize xup M (N + 2) _ = M at hk ⊢
  show xX G l _ _ _ 24 _ _ M (N + 3) (S + 20)
  refine x_putF (q := 27) (v := .ref (N + 2)) (ty := .array .boolean) xclX4 3 fwX4_20 (by decide) rfl rfl rfl dX4_init_24 rfl (by decide +kernel) rfl rfl (Nat.le_of_ble_eq_true rfl) hk.1 ?_
  have hk : nbk M0 (xup M a (.inr (7, [.null, .ref (N), .ref (N + 1), .ref (N + 2), .null, .null, .null, .null, .null, .null, .null, .null, .long 0, .int 0]))) a N (.inr (7, [.null, .ref (N), .ref (N + 1), .ref (N + 2), .null, .null, .null, .null, .null, .null, .null, .null, .long 0, .int 0])) [iaZ 4, iaZ 6, zaZ 10] := nbk.put hk ha _
  show xX G l _ _ _ 27 _ _ (xup M a (.inr (7, [.null, .ref (N), .ref (N + 1), .ref (N + 2), .null, .null, .null, .null, .null, .null, .null, .null, .long 0, .int 0]))) _ _
  generalize xup M a _ = M at hk ⊢
  refine x_aload_n (q := 28) dX4_init_27 rfl rfl ?_
  refine xn_bipush (q := 30) 10 dX4_init_28 rfl (by decide) ?_
  refine x_newa (q := 32) (at0 := .boolean) (ty := .boolean) (n := 10) (a0 := (10, .inl (fun _ => 0))) 2 rfl rfl (fun C h => by cases h) ac_boolean (fun cA => rfl) (by decide) (by decide) (by decide) dX4_init_30 rfl (by omega) (by omega) (fun _ => ?_)
  have hk : nbk M0 (xup M (N + 3) (zaZ 10)) a N (.inr (7, [.null, .ref (N), .ref (N + 1), .ref (N + 2), .null, .null, .null, .null, .null, .null, .null, .null, .long 0, .int 0])) [iaZ 4, iaZ 6, zaZ 10, zaZ 10] := nbk.arr hk ha rfl _
  generalize xup M (N + 3) _ = M at hk ⊢
  show xX G l _ _ _ 32 _ _ M (N + 4) (S + 30)
  refine x_putF (q := 35) (v := .ref (N + 3)) (ty := .array .boolean) xclX4 4 fwX4_24 (by decide) rfl rfl rfl dX4_init_32 rfl (by decide +kernel) rfl rfl (Nat.le_of_ble_eq_true rfl) hk.1 ?_
  have hk : nbk M0 (xup M a (.inr (7, [.null, .ref (N), .ref (N + 1), .ref (N + 2), .ref (N + 3), .null, .null, .null, .null, .null, .null, .null, .long 0, .int 0]))) a N (.inr (7, [.null, .ref (N), .ref (N + 1), .ref (N + 2), .ref (N + 3), .null, .null, .null, .null, .null, .null, .null, .long 0, .int 0])) [iaZ 4, iaZ 6, zaZ 10, zaZ 10] := nbk.put hk ha _
  show xX G l _ _ _ 35 _ _ (xup M a (.inr (7, [.null, .ref (N), .ref (N + 1), .ref (N + 2), .ref (N + 3), .null, .null, .null, .null, .null, .null, .null, .long 0, .int 0]))) _ _
  generalize xup M a _ = M at hk ⊢
  refine x_aload_n (q := 36) dX4_init_35 rfl rfl ?_
  refine xn_iconst (q := 37) 4 dX4_init_36 rfl (by decide) ?_
  refine x_newa (q := 39) (at0 := .boolean) (ty := .boolean) (n := 4) (a0 := (4, .inl (fun _ => 0))) 2 rfl rfl (fun C h => by cases h) ac_boolean (fun cA => rfl) (by decide) (by decide) (by decide) dX4_init_37 rfl (by omega) (by omega) (fun _ => ?_)
  have hk : nbk M0 (xup M (N + 4) (zaZ 4)) a N (.inr (7, [.null, .ref (N), .ref (N + 1), .ref (N + 2), .ref (N + 3), .null, .null, .null, .null, .null, .null, .null, .long 0, .int 0])) [iaZ 4, iaZ 6, zaZ 10, zaZ 10, zaZ 4] := nbk.arr hk ha rfl _
  generalize xup M (N + 4) _ = M at hk ⊢
  show xX G l _ _ _ 39 _ _ M (N + 5) (S + 34)
  refine x_putF (q := 42) (v := .ref (N + 4)) (ty := .array .boolean) xclX4 5 fwX4_27 (by decide) rfl rfl rfl dX4_init_39 rfl (by decide +kernel) rfl rfl (Nat.le_of_ble_eq_true rfl) hk.1 ?_
  have hk : nbk M0 (xup M a (.inr (7, [.null, .ref (N), .ref (N + 1), .ref (N + 2), .ref (N + 3), .ref (N + 4), .null, .null, .null, .null, .null, .null, .long 0, .int 0]))) a N (.inr (7, [.null, .ref (N), .ref (N + 1), .ref (N + 2), .ref (N + 3), .ref (N + 4), .null, .null, .null, .null, .null, .null, .long 0, .int 0])) [iaZ 4, iaZ 6, zaZ 10, zaZ 10, zaZ 4] := nbk.put hk ha _
  show xX G l _ _ _ 42 _ _ (xup M a (.inr (7, [.null, .ref (N), .ref (N + 1), .ref (N + 2), .ref (N + 3), .ref (N + 4), .null, .null, .null, .null, .null, .null, .long 0, .int 0]))) _ _
  generalize xup M a _ = M at hk ⊢
  refine x_aload_n (q := 43) dX4_init_42 rfl rfl ?_
  refine xn_bipush (q := 45) 100 dX4_init_43 rfl (by decide) ?_
  refine x_newa (q := 47) (at0 := .long) (ty := .long) (n := 100) (a0 := (100, .inr (.inl (fun _ => 0)))) 1 rfl rfl (fun C h => by cases h) ac_long (fun cA => rfl) (by decide) (by decide) (by decide) dX4_init_45 rfl (by omega) (by omega) (fun _ => ?_)
  have hk : nbk M0 (xup M (N + 5) (laZ 100)) a N (.inr (7, [.null, .ref (N), .ref (N + 1), .ref (N + 2), .ref (N + 3), .ref (N + 4), .null, .null, .null, .null, .null, .null, .long 0, .int 0])) [iaZ 4, iaZ 6, zaZ 10, zaZ 10, zaZ 4, laZ 100] := nbk.arr hk ha rfl _
  generalize xup M (N + 5) _ = M at hk ⊢
  show xX G l _ _ _ 47 _ _ M (N + 6) (S + 134)
  refine x_putF (q := 50) (v := .ref (N + 5)) (ty := .array .long) xclX4 6 fwX4_30 (by decide) rfl rfl rfl dX4_init_47 rfl (by decide +kernel) rfl rfl (Nat.le_of_ble_eq_true rfl) hk.1 ?_
  have hk : nbk M0 (xup M a (.inr (7, [.null, .ref (N), .ref (N + 1), .ref (N + 2), .ref (N + 3), .ref (N + 4), .ref (N + 5), .null, .null, .null, .null, .null, .long 0, .int 0]))) a N (.inr (7, [.null, .ref (N), .ref (N + 1), .ref (N + 2), .ref (N + 3), .ref (N + 4), .ref (N + 5), .null, .null, .null, .null, .null, .long 0, .int 0])) [iaZ 4, iaZ 6, zaZ 10, zaZ 10, zaZ 4, laZ 100] := nbk.put hk ha _
  show xX G l _ _ _ 50 _ _ (xup M a (.inr (7, [.null, .ref (N), .ref (N + 1), .ref (N + 2), .ref (N + 3), .ref (N + 4), .ref (N + 5), .null, .null, .null, .null, .null, .long 0, .int 0]))) _ _
  generalize xup M a _ = M at hk ⊢
  refine x_aload_n (q := 51) dX4_init_50 rfl rfl ?_
  refine xn_bipush (q := 53) 55 dX4_init_51 rfl (by decide) ?_
  refine x_anew (q := 56) (n := 55) nwX4_34 (by decide) (by decide) (by decide) dX4_init_53 rfl (by omega) (by omega) (fun _ => ?_)
  have hk : nbk M0 (xup M (N + 6) (.inl (.object RX2, 55, .inr (.inr (.inr (.inr (fun _ => none))))))) a N (.inr (7, [.null, .ref (N), .ref (N + 1), .ref (N + 2), .ref (N + 3), .ref (N + 4), .ref (N + 5), .null, .null, .null, .null, .null, .long 0, .int 0])) [iaZ 4, iaZ 6, zaZ 10, zaZ 10, zaZ 4, laZ 100, .inl (.object RX2, 55, .inr (.inr (.inr (.inr (fun _ => none)))))] := nbk.arr hk ha rfl _
  generalize xup M (N + 6) _ = M at hk ⊢
  show xX G l _ _ _ 56 _ _ M (N + 7) (S + 189)
  refine x_putF (q := 59) (v := .ref (N + 6)) (ty := .array (.object "InfluenceRows$Big")) xclX4 7 fwX4_36 (by decide) rfl rfl rfl dX4_init_56 rfl (by decide +kernel) rfl rfl (Nat.le_of_ble_eq_true rfl) hk.1 ?_
  have hk : nbk M0 (xup M a (.inr (7, [.null, .ref (N), .ref (N + 1), .ref (N + 2), .ref (N + 3), .ref (N + 4), .ref (N + 5), .ref (N + 6), .null, .null, .null, .null, .long 0, .int 0]))) a N (.inr (7, [.null, .ref (N), .ref (N + 1), .ref (N + 2), .ref (N + 3), .ref (N + 4), .ref (N + 5), .ref (N + 6), .null, .null, .null, .null, .long 0, .int 0])) [iaZ 4, iaZ 6, zaZ 10, zaZ 10, zaZ 4, laZ 100, .inl (.object RX2, 55, .inr (.inr (.inr (.inr (fun _ => none)))))] := nbk.put hk ha _
  show xX G l _ _ _ 59 _ _ (xup M a (.inr (7, [.null, .ref (N), .ref (N + 1), .ref (N + 2), .ref (N + 3), .ref (N + 4), .ref (N + 5), .ref (N + 6), .null, .null, .null, .null, .long 0, .int 0]))) _ _
  generalize xup M a _ = M at hk ⊢
  refine x_aload_n (q := 60) dX4_init_59 rfl rfl ?_
  refine x_new (q := 63) (fs := [.int 0, .int 0, .null]) xclX2 nwX4_34 in1X2 in2X2 (fun j hj => by rcases (by omega : j = 0 ∨ j = 1 ∨ j = 2) with rfl | rfl | rfl <;> rfl) dX4_init_60 rfl (by omega) (by omega) (fun _ => ?_)
  refine x_dup (q := 64) dX4_init_63 rfl rfl ?_
  refine x_callIN (q := 67) (b := N + 7) (As := []) imX2_init rfl rfl ivX2_init mnX4_40 dX4_init_64 rfl rfl rfl (Nat.le_of_ble_eq_true rfl) ?_
  refine (k_X2 G l _ (xup M (N + 7) (.inr (5, [.int 0, .int 0, .null]))) (N + 7 + 1) (S + 189 + 3) (N + 7)  (xup_s _ _ _) (by omega) (by omega) (by omega)).mono (fun r9 M9 N9 S9 hp => ?_)
  obtain ⟨rfl, rfl, rfl, hc⟩ := hp
  have hk : nbk M0 M9 a N (.inr (7, [.null, .ref (N), .ref (N + 1), .ref (N + 2), .ref (N + 3), .ref (N + 4), .ref (N + 5), .ref (N + 6), .null, .null, .null, .null, .long 0, .int 0])) [iaZ 4, iaZ 6, zaZ 10, zaZ 10, zaZ 4, laZ 100, .inl (.object RX2, 55, .inr (.inr (.inr (.inr (fun _ => none))))), .inr (5, [.int 0, .int 0, .ref (N + 8)]), iaZ 16] := nbk.sub hk ha rfl hc
  clear hc
  generalize M9 = M at hk ⊢
  show xX G l _ _ _ 67 _ _ M (N + 9) (S + 208)
  refine x_putF (q := 70) (v := .ref (N + 7)) (ty := .object "InfluenceRows$Big") xclX4 8 fwX4_41 (by decide) rfl rfl rfl dX4_init_67 rfl (by decide +kernel) rfl rfl (Nat.le_of_ble_eq_true rfl) hk.1 ?_
  have hk : nbk M0 (xup M a (.inr (7, [.null, .ref (N), .ref (N + 1), .ref (N + 2), .ref (N + 3), .ref (N + 4), .ref (N + 5), .ref (N + 6), .ref (N + 7), .null, .null, .null, .long 0, .int 0]))) a N (.inr (7, [.null, .ref (N), .ref (N + 1), .ref (N + 2), .ref (N + 3), .ref (N + 4), .ref (N + 5), .ref (N + 6), .ref (N + 7), .null, .null, .null, .long 0, .int 0])) [iaZ 4, iaZ 6, zaZ 10, zaZ 10, zaZ 4, laZ 100, .inl (.object RX2, 55, .inr (.inr (.inr (.inr (fun _ => none))))), .inr (5, [.int 0, .int 0, .ref (N + 8)]), iaZ 16] := nbk.put hk ha _
  show xX G l _ _ _ 70 _ _ (xup M a (.inr (7, [.null, .ref (N), .ref (N + 1), .ref (N + 2), .ref (N + 3), .ref (N + 4), .ref (N + 5), .ref (N + 6), .ref (N + 7), .null, .null, .null, .long 0, .int 0]))) _ _
  generalize xup M a _ = M at hk ⊢
  refine x_aload_n (q := 71) dX4_init_70 rfl rfl ?_
  refine x_new (q := 74) (fs := [.int 0, .int 0, .null]) xclX2 nwX4_34 in1X2 in2X2 (fun j hj => by rcases (by omega : j = 0 ∨ j = 1 ∨ j = 2) with rfl | rfl | rfl <;> rfl) dX4_init_71 rfl (by omega) (by omega) (fun _ => ?_)
  refine x_dup (q := 75) dX4_init_74 rfl rfl ?_
  refine x_callIN (q := 78) (b := N + 9) (As := []) imX2_init rfl rfl ivX2_init mnX4_40 dX4_init_75 rfl rfl rfl (Nat.le_of_ble_eq_true rfl) ?_
  refine (k_X2 G l _ (xup M (N + 9) (.inr (5, [.int 0, .int 0, .null]))) (N + 9 + 1) (S + 208 + 3) (N + 9)  (xup_s _ _ _) (by omega) (by omega) (by omega)).mono (fun r9 M9 N9 S9 hp => ?_)
  obtain ⟨rfl, rfl, rfl, hc⟩ := hp
  have hk : nbk M0 M9 a N (.inr (7, [.null, .ref (N), .ref (N + 1), .ref (N + 2), .ref (N + 3), .ref (N + 4), .ref (N + 5), .ref (N + 6), .ref (N + 7), .null, .null, .null, .long 0, .int 0])) [iaZ 4, iaZ 6, zaZ 10, zaZ 10, zaZ 4, laZ 100, .inl (.object RX2, 55, .inr (.inr (.inr (.inr (fun _ => none))))), .inr (5, [.int 0, .int 0, .ref (N + 8)]), iaZ 16, .inr (5, [.int 0, .int 0, .ref (N + 10)]), iaZ 16] := nbk.sub hk ha rfl hc
  clear hc
  generalize M9 = M at hk ⊢
  show xX G l _ _ _ 78 _ _ M (N + 11) (S + 227)
  refine x_putF (q := 81) (v := .ref (N + 9)) (ty := .object "InfluenceRows$Big") xclX4 9 fwX4_45 (by decide) rfl rfl rfl dX4_init_78 rfl (by decide +kernel) rfl rfl (Nat.le_of_ble_eq_true rfl) hk.1 ?_
  have hk : nbk M0 (xup M a (.inr (7, [.null, .ref (N), .ref (N + 1), .ref (N + 2), .ref (N + 3), .ref (N + 4), .ref (N + 5), .ref (N + 6), .ref (N + 7), .ref (N + 9), .null, .null, .long 0, .int 0]))) a N (.inr (7, [.null, .ref (N), .ref (N + 1), .ref (N + 2), .ref (N + 3), .ref (N + 4), .ref (N + 5), .ref (N + 6), .ref (N + 7), .ref (N + 9), .null, .null, .long 0, .int 0])) [iaZ 4, iaZ 6, zaZ 10, zaZ 10, zaZ 4, laZ 100, .inl (.object RX2, 55, .inr (.inr (.inr (.inr (fun _ => none))))), .inr (5, [.int 0, .int 0, .ref (N + 8)]), iaZ 16, .inr (5, [.int 0, .int 0, .ref (N + 10)]), iaZ 16] := nbk.put hk ha _
  show xX G l _ _ _ 81 _ _ (xup M a (.inr (7, [.null, .ref (N), .ref (N + 1), .ref (N + 2), .ref (N + 3), .ref (N + 4), .ref (N + 5), .ref (N + 6), .ref (N + 7), .ref (N + 9), .null, .null, .long 0, .int 0]))) _ _
  generalize xup M a _ = M at hk ⊢
  refine x_aload_n (q := 82) dX4_init_81 rfl rfl ?_
  refine x_new (q := 85) (fs := [.int 0, .int 0, .null]) xclX2 nwX4_34 in1X2 in2X2 (fun j hj => by rcases (by omega : j = 0 ∨ j = 1 ∨ j = 2) with rfl | rfl | rfl <;> rfl) dX4_init_82 rfl (by omega) (by omega) (fun _ => ?_)
  refine x_dup (q := 86) dX4_init_85 rfl rfl ?_
  refine x_callIN (q := 89) (b := N + 11) (As := []) imX2_init rfl rfl ivX2_init mnX4_40 dX4_init_86 rfl rfl rfl (Nat.le_of_ble_eq_true rfl) ?_
  refine (k_X2 G l _ (xup M (N + 11) (.inr (5, [.int 0, .int 0, .null]))) (N + 11 + 1) (S + 227 + 3) (N + 11)  (xup_s _ _ _) (by omega) (by omega) (by omega)).mono (fun r9 M9 N9 S9 hp => ?_)
  obtain ⟨rfl, rfl, rfl, hc⟩ := hp
  have hk : nbk M0 M9 a N (.inr (7, [.null, .ref (N), .ref (N + 1), .ref (N + 2), .ref (N + 3), .ref (N + 4), .ref (N + 5), .ref (N + 6), .ref (N + 7), .ref (N + 9), .null, .null, .long 0, .int 0])) [iaZ 4, iaZ 6, zaZ 10, zaZ 10, zaZ 4, laZ 100, .inl (.object RX2, 55, .inr (.inr (.inr (.inr (fun _ => none))))), .inr (5, [.int 0, .int 0, .ref (N + 8)]), iaZ 16, .inr (5, [.int 0, .int 0, .ref (N + 10)]), iaZ 16, .inr (5, [.int 0, .int 0, .ref (N + 12)]), iaZ 16] := nbk.sub hk ha rfl hc
  clear hc
  generalize M9 = M at hk ⊢
  show xX G l _ _ _ 89 _ _ M (N + 13) (S + 246)
  refine x_putF (q := 92) (v := .ref (N + 11)) (ty := .object "InfluenceRows$Big") xclX4 10 fwX4_48 (by decide) rfl rfl rfl dX4_init_89 rfl (by decide +kernel) rfl rfl (Nat.le_of_ble_eq_true rfl) hk.1 ?_
  have hk : nbk M0 (xup M a (.inr (7, [.null, .ref (N), .ref (N + 1), .ref (N + 2), .ref (N + 3), .ref (N + 4), .ref (N + 5), .ref (N + 6), .ref (N + 7), .ref (N + 9), .ref (N + 11), .null, .long 0, .int 0]))) a N (.inr (7, [.null, .ref (N), .ref (N + 1), .ref (N + 2), .ref (N + 3), .ref (N + 4), .ref (N + 5), .ref (N + 6), .ref (N + 7), .ref (N + 9), .ref (N + 11), .null, .long 0, .int 0])) [iaZ 4, iaZ 6, zaZ 10, zaZ 10, zaZ 4, laZ 100, .inl (.object RX2, 55, .inr (.inr (.inr (.inr (fun _ => none))))), .inr (5, [.int 0, .int 0, .ref (N + 8)]), iaZ 16, .inr (5, [.int 0, .int 0, .ref (N + 10)]), iaZ 16, .inr (5, [.int 0, .int 0, .ref (N + 12)]), iaZ 16] := nbk.put hk ha _
  show xX G l _ _ _ 92 _ _ (xup M a (.inr (7, [.null, .ref (N), .ref (N + 1), .ref (N + 2), .ref (N + 3), .ref (N + 4), .ref (N + 5), .ref (N + 6), .ref (N + 7), .ref (N + 9), .ref (N + 11), .null, .long 0, .int 0]))) _ _
  generalize xup M a _ = M at hk ⊢
  refine x_aload_n (q := 93) dX4_init_92 rfl rfl ?_
  refine x_new (q := 96) (fs := [.int 0, .int 0, .null]) xclX2 nwX4_34 in1X2 in2X2 (fun j hj => by rcases (by omega : j = 0 ∨ j = 1 ∨ j = 2) with rfl | rfl | rfl <;> rfl) dX4_init_93 rfl (by omega) (by omega) (fun _ => ?_)
  refine x_dup (q := 97) dX4_init_96 rfl rfl ?_
  refine x_callIN (q := 100) (b := N + 13) (As := []) imX2_init rfl rfl ivX2_init mnX4_40 dX4_init_97 rfl rfl rfl (Nat.le_of_ble_eq_true rfl) ?_
  refine (k_X2 G l _ (xup M (N + 13) (.inr (5, [.int 0, .int 0, .null]))) (N + 13 + 1) (S + 246 + 3) (N + 13)  (xup_s _ _ _) (by omega) (by omega) (by omega)).mono (fun r9 M9 N9 S9 hp => ?_)
  obtain ⟨rfl, rfl, rfl, hc⟩ := hp
  have hk : nbk M0 M9 a N (.inr (7, [.null, .ref (N), .ref (N + 1), .ref (N + 2), .ref (N + 3), .ref (N + 4), .ref (N + 5), .ref (N + 6), .ref (N + 7), .ref (N + 9), .ref (N + 11), .null, .long 0, .int 0])) [iaZ 4, iaZ 6, zaZ 10, zaZ 10, zaZ 4, laZ 100, .inl (.object RX2, 55, .inr (.inr (.inr (.inr (fun _ => none))))), .inr (5, [.int 0, .int 0, .ref (N + 8)]), iaZ 16, .inr (5, [.int 0, .int 0, .ref (N + 10)]), iaZ 16, .inr (5, [.int 0, .int 0, .ref (N + 12)]), iaZ 16, .inr (5, [.int 0, .int 0, .ref (N + 14)]), iaZ 16] := nbk.sub hk ha rfl hc
  clear hc
  generalize M9 = M at hk ⊢
  show xX G l _ _ _ 100 _ _ M (N + 15) (S + 265)
  refine x_putF (q := 103) (v := .ref (N + 13)) (ty := .object "InfluenceRows$Big") xclX4 11 fwX4_51 (by decide) rfl rfl rfl dX4_init_100 rfl (by decide +kernel) rfl rfl (Nat.le_of_ble_eq_true rfl) hk.1 ?_
  have hk : nbk M0 (xup M a (.inr (7, [.null, .ref (N), .ref (N + 1), .ref (N + 2), .ref (N + 3), .ref (N + 4), .ref (N + 5), .ref (N + 6), .ref (N + 7), .ref (N + 9), .ref (N + 11), .ref (N + 13), .long 0, .int 0]))) a N (.inr (7, [.null, .ref (N), .ref (N + 1), .ref (N + 2), .ref (N + 3), .ref (N + 4), .ref (N + 5), .ref (N + 6), .ref (N + 7), .ref (N + 9), .ref (N + 11), .ref (N + 13), .long 0, .int 0])) [iaZ 4, iaZ 6, zaZ 10, zaZ 10, zaZ 4, laZ 100, .inl (.object RX2, 55, .inr (.inr (.inr (.inr (fun _ => none))))), .inr (5, [.int 0, .int 0, .ref (N + 8)]), iaZ 16, .inr (5, [.int 0, .int 0, .ref (N + 10)]), iaZ 16, .inr (5, [.int 0, .int 0, .ref (N + 12)]), iaZ 16, .inr (5, [.int 0, .int 0, .ref (N + 14)]), iaZ 16] := nbk.put hk ha _
  show xX G l _ _ _ 103 _ _ (xup M a (.inr (7, [.null, .ref (N), .ref (N + 1), .ref (N + 2), .ref (N + 3), .ref (N + 4), .ref (N + 5), .ref (N + 6), .ref (N + 7), .ref (N + 9), .ref (N + 11), .ref (N + 13), .long 0, .int 0]))) _ _
  generalize xup M a _ = M at hk ⊢
  refine x_aload_n (q := 104) dX4_init_103 rfl rfl ?_
  refine x_aload_n (q := 105) dX4_init_104 rfl rfl ?_
  refine x_putF (q := 108) (v := .ref (p1)) (ty := .object "InfluenceRows$Beams") xclX4 0 fwX4_54 (by decide) rfl rfl rfl dX4_init_105 rfl (by decide +kernel) rfl rfl (Nat.le_of_ble_eq_true rfl) hk.1 ?_
  have hk : nbk M0 (xup M a (.inr (7, [.ref (p1), .ref (N), .ref (N + 1), .ref (N + 2), .ref (N + 3), .ref (N + 4), .ref (N + 5), .ref (N + 6), .ref (N + 7), .ref (N + 9), .ref (N + 11), .ref (N + 13), .long 0, .int 0]))) a N (.inr (7, [.ref (p1), .ref (N), .ref (N + 1), .ref (N + 2), .ref (N + 3), .ref (N + 4), .ref (N + 5), .ref (N + 6), .ref (N + 7), .ref (N + 9), .ref (N + 11), .ref (N + 13), .long 0, .int 0])) [iaZ 4, iaZ 6, zaZ 10, zaZ 10, zaZ 4, laZ 100, .inl (.object RX2, 55, .inr (.inr (.inr (.inr (fun _ => none))))), .inr (5, [.int 0, .int 0, .ref (N + 8)]), iaZ 16, .inr (5, [.int 0, .int 0, .ref (N + 10)]), iaZ 16, .inr (5, [.int 0, .int 0, .ref (N + 12)]), iaZ 16, .inr (5, [.int 0, .int 0, .ref (N + 14)]), iaZ 16] := nbk.put hk ha _
  show xX G l _ _ _ 108 _ _ (xup M a (.inr (7, [.ref (p1), .ref (N), .ref (N + 1), .ref (N + 2), .ref (N + 3), .ref (N + 4), .ref (N + 5), .ref (N + 6), .ref (N + 7), .ref (N + 9), .ref (N + 11), .ref (N + 13), .long 0, .int 0]))) _ _
  generalize xup M a _ = M at hk ⊢
  refine xn_iconst (q := 109) 0 dX4_init_108 rfl (by decide) ?_
  refine x_istore_n (q := 110) (ls' := [(0, _), (1, _), (2, _)]) [1, 2, 0] dX4_init_109 rfl (by decide) rfl ?_
  exact loop 55 0 M (fun _ => none) rfl hk (fun j hj => absurd hj (by omega))
def B_X2 (x : Nat)  : List xE := [.inr (5, [.int 0, .int 0, .ref (x + 1)]), iaZ 16]
theorem B_X2_len (x : Nat)  : (B_X2 x ).length = 2 := rfl
def B_X7 (x : Nat)  : List xE := [.inr (10, [.ref (x + 1), .int 0, .int 0]), iaZ 50]
theorem B_X7_len (x : Nat)  : (B_X7 x ).length = 2 := rfl
def B_X1 (x : Nat)  (f0 f1 : Nat → Int64) : List xE := [.inr (4, [.ref (x + 1), .ref (x + 2), .ref (x + 3), .ref (x + 4), .ref (x + 5), .ref (x + 6), .int (nI 1)]), .inl (.long, 3, .inr (.inl f0)), .inl (.long, 3, .inr (.inl f1)), zaZ 6, .inl (.boolean, 4, .inl oneF), .inl (.boolean, 4, .inl oneF), laZ 4]
theorem B_X1_len (x : Nat)  (f0 f1 : Nat → Int64) : (B_X1 x  f0 f1).length = 7 := rfl
def B_X6 (x : Nat)  : List xE := [.inr (9, [.ref (x + 1), .ref (x + 3), .ref (x + 5), .ref (x + 12)]), .inr (5, [.int 0, .int 0, .ref (x + 2)]), iaZ 16, .inr (5, [.int 0, .int 0, .ref (x + 4)]), iaZ 16, .inr (6, [.ref (x + 6), .ref (x + 8), .ref (x + 10)]), .inr (5, [.int 0, .int 0, .ref (x + 7)]), iaZ 16, .inr (5, [.int 0, .int 0, .ref (x + 9)]), iaZ 16, .inr (5, [.int 0, .int 0, .ref (x + 11)]), iaZ 16, .inr (5, [.int 0, .int 0, .ref (x + 13)]), iaZ 16]
theorem B_X6_len (x : Nat)  : (B_X6 x ).length = 14 := rfl
def B_X0 (x : Nat)  : List xE := [.inr (3, [.ref (x + 1), .ref (x + 8), .ref (x + 10), .ref (x + 12), .ref (x + 14), .ref (x + 16), .ref (x + 18), .ref (x + 20), .ref (x + 22), .ref (x + 24)]), .inr (6, [.ref (x + 2), .ref (x + 4), .ref (x + 6)]), .inr (5, [.int 0, .int 0, .ref (x + 3)]), iaZ 16, .inr (5, [.int 0, .int 0, .ref (x + 5)]), iaZ 16, .inr (5, [.int 0, .int 0, .ref (x + 7)]), iaZ 16, .inr (5, [.int 0, .int 0, .ref (x + 9)]), iaZ 16, .inr (5, [.int 0, .int 0, .ref (x + 11)]), iaZ 16, .inr (5, [.int 0, .int 0, .ref (x + 13)]), iaZ 16, .inr (5, [.int 0, .int 0, .ref (x + 15)]), iaZ 16, .inr (5, [.int 0, .int 0, .ref (x + 17)]), iaZ 16, .inr (5, [.int 0, .int 0, .ref (x + 19)]), iaZ 16, .inr (5, [.int 0, .int 0, .ref (x + 21)]), iaZ 16, .inr (5, [.int 0, .int 0, .ref (x + 23)]), iaZ 16, .inr (5, [.int 0, .int 0, .ref (x + 25)]), iaZ 16]
theorem B_X0_len (x : Nat)  : (B_X0 x ).length = 26 := rfl
def B_X5 (x : Nat) (p1 : Nat) (p2 : Nat) : List xE := [.inr (8, [.ref (p1), .ref (p2), .ref (x + 1), .ref (x + 2), .ref (x + 3), .ref (x + 4), .int 0, .int 0, .int 0, .int 0, .int 0, .long 0, .long 0]), laZ 10, laZ 10, zaZ 4, .inr (5, [.int 0, .int 0, .ref (x + 5)]), iaZ 16]
theorem B_X5_len (x : Nat) (p1 : Nat) (p2 : Nat) : (B_X5 x p1 p2).length = 6 := rfl
def B_X4 (x : Nat) (p1 : Nat) (f : Nat → Option Nat) : List xE := .inr (7, [.ref (p1), .ref (x + 1), .ref (x + 2), .ref (x + 3), .ref (x + 4), .ref (x + 5), .ref (x + 6), .ref (x + 7), .ref (x + 8), .ref (x + 10), .ref (x + 12), .ref (x + 14), .long 0, .int 0]) :: ([iaZ 4, iaZ 6, zaZ 10, zaZ 10, zaZ 4, laZ 100, .inl (.object RX2, 55, .inr (.inr (.inr (.inr f)))), .inr (5, [.int 0, .int 0, .ref (x + 9)]), iaZ 16, .inr (5, [.int 0, .int 0, .ref (x + 11)]), iaZ 16, .inr (5, [.int 0, .int 0, .ref (x + 13)]), iaZ 16, .inr (5, [.int 0, .int 0, .ref (x + 15)]), iaZ 16] ++ bigs (x + 1) 55)
theorem B_X4_len (x : Nat) (p1 : Nat) (f : Nat → Option Nat) : (B_X4 x p1 f).length = 126 := by unfold B_X4; rw [List.length_cons, List.length_append, bigs_len]; rfl
theorem bigs_at (N : Nat) : ∀ n k, k < n → (bigs N n)[2 * k]? = some (bgZ (N + 15 + 2 * k + 1)) ∧ (bigs N n)[2 * k + 1]? = some (iaZ 16)
  | 0, k, h => absurd h (by omega)
  | n + 1, k, h => by
    unfold bigs
    by_cases e : k < n
    · have := bigs_at N n k e
      rw [List.getElem?_append_left (by rw [bigs_len]; omega), List.getElem?_append_left (by rw [bigs_len]; omega)]
      exact this
    · have e : k = n := by omega
      subst e
      rw [List.getElem?_append_right (by rw [bigs_len]; omega), List.getElem?_append_right (by rw [bigs_len]; omega), bigs_len, Nat.sub_self, show 2 * k + 1 - 2 * k = 1 by omega]
      exact ⟨rfl, rfl⟩
set_option maxRecDepth 100000 in
set_option maxHeartbeats 4000000 in
theorem k_X8 (G : xG) (l : Launch) (d : Nat) (M0 : xM) (N S a : Nat) (hM : M0 a = some (.inr (11, [.null, .null, .null, .null, .null, .null, .null, .null, .null, .null, .null, .null, .int 0, .long 0]))) (ha : a < N) (hN : N + 199 ≤ G.2.2.2.2.1) (hS : S + 1956 ≤ G.2.2.2.2.2) : xC G l YX8_init (d + 4) [.ref a] M0 N S (fun r M N' S' => r = none ∧ N' = N + 199 ∧ S' = S + 1956 ∧ ∃ f0_0 : Nat → Int64, ∃ f1_0 : Nat → Int64, ∃ f0_7 : Nat → Int64, ∃ f1_7 : Nat → Int64, ∃ f_16 : Nat → Option Nat, (∀ j, j < 3 → f0_0 j = lN 1) ∧ (∀ j, j < 3 → f1_0 j = lN 1) ∧ (∀ j, j < 3 → f0_7 j = lN 1) ∧ (∀ j, j < 3 → f1_7 j = lN 1) ∧ (∀ j, j < 55 → f_16 j = some (N + 16 + 1 + 15 + 2 * j)) ∧ nbk M0 M a N (.inr (11, [.ref (N), .ref (N + 7), .ref (N + 14), .ref (N + 16), .ref (N + 142), .ref (N + 148), .ref (N + 154), .ref (N + 180), .ref (N + 194), .ref (N + 196), .ref (N + 197), .ref (N + 198), .int (nI 0), .long (-1)])) (B_X1 (N)  f0_0 f1_0 ++ B_X1 (N + 7)  f0_7 f1_7 ++ B_X7 (N + 14) ++ B_X4 (N + 16) (N) f_16 ++ B_X5 (N + 142) (N) (N + 16) ++ B_X5 (N + 148) (N) (N + 16) ++ B_X0 (N + 154) ++ B_X6 (N + 180) ++ B_X2 (N + 194) ++ [iaZ 8] ++ [iaZ 8] ++ [iaZ 8])) := by
  refine xC.of (ls := [(0, .ref a)]) (by decide) (Nat.le_of_ble_eq_true rfl) rfl ?_
  have hk : nbk M0 M0 a N (.inr (11, [.null, .null, .null, .null, .null, .null, .null, .null, .null, .null, .null, .null, .int 0, .long 0])) [] := nbk0 hM
  suffices h : ∀ M : xM, nbk M0 M a N (.inr (11, [.null, .null, .null, .null, .null, .null, .null, .null, .null, .null, .null, .null, .int 0, .long 0])) [] → xX G l YX8_init (d + 4) _ 0 [(0, .ref a)] [] M N S from h M0 hk
  clear hk; intro M hk
  refine x_aload_n (q := 1) dX8_init_0 rfl rfl ?_
  refine x_objInit (q := 4) owX8_1 oi1 oi2 dX8_init_1 rfl (Nat.le_of_ble_eq_true rfl) ?_
  refine x_aload_n (q := 5) dX8_init_4 rfl rfl ?_
  refine x_new (q := 8) (fs := [.null, .null, .null, .null, .null, .null, .int 0]) xclX1 nwX8_7 in1X1 in2X1 (fun j hj => by rcases (by omega : j = 0 ∨ j = 1 ∨ j = 2 ∨ j = 3 ∨ j = 4 ∨ j = 5 ∨ j = 6) with rfl | rfl | rfl | rfl | rfl | rfl | rfl <;> rfl) dX8_init_5 rfl (by omega) (by omega) (fun _ => ?_)
  refine x_dup (q := 9) dX8_init_8 rfl rfl ?_
  refine x_callI (q := 12) (b := N) (As := []) imX1_init rfl rfl ivX1_init mwX8_9 dX8_init_9 rfl rfl rfl (Nat.le_of_ble_eq_true rfl) ?_
  refine (k_X1 G l _ (xup M (N) (.inr (4, [.null, .null, .null, .null, .null, .null, .int 0]))) (N + 1) (S + 7) (N)  (xup_s _ _ _) (by omega) (by omega) (by omega)).mono (fun r9 M9 N9 S9 hp => ?_)
  obtain ⟨rfl, rfl, rfl, f0_0, f1_0, hf0_0, hf1_0, hc⟩ := hp
  have hk : nbk M0 M9 a N (.inr (11, [.null, .null, .null, .null, .null, .null, .null, .null, .null, .null, .null, .null, .int 0, .long 0])) (B_X1 (N)  f0_0 f1_0) := nbk.sub (k := 0) hk ha (rfl) hc
  clear hc
  generalize M9 = M at hk ⊢
  show xX G l _ _ _ 12 _ _ M (N + 7) (S + 31)
  refine x_putF (q := 15) (v := .ref (N)) (ty := .object "InfluenceRows$Beams") xclX8 0 fwX8_10 (by decide) rfl rfl rfl dX8_init_12 rfl (by decide +kernel) rfl rfl (Nat.le_of_ble_eq_true rfl) hk.1 ?_
  have hk : nbk M0 (xup M a (.inr (11, [.ref (N), .null, .null, .null, .null, .null, .null, .null, .null, .null, .null, .null, .int 0, .long 0]))) a N (.inr (11, [.ref (N), .null, .null, .null, .null, .null, .null, .null, .null, .null, .null, .null, .int 0, .long 0])) (B_X1 (N)  f0_0 f1_0) := nbk.put hk ha _
  show xX G l _ _ _ 15 _ _ (xup M a (.inr (11, [.ref (N), .null, .null, .null, .null, .null, .null, .null, .null, .null, .null, .null, .int 0, .long 0]))) _ _
  generalize xup M a _ = M at hk ⊢
  refine x_aload_n (q := 16) dX8_init_15 rfl rfl ?_
  refine x_new (q := 19) (fs := [.null, .null, .null, .null, .null, .null, .int 0]) xclX1 nwX8_7 in1X1 in2X1 (fun j hj => by rcases (by omega : j = 0 ∨ j = 1 ∨ j = 2 ∨ j = 3 ∨ j = 4 ∨ j = 5 ∨ j = 6) with rfl | rfl | rfl | rfl | rfl | rfl | rfl <;> rfl) dX8_init_16 rfl (by omega) (by omega) (fun _ => ?_)
  refine x_dup (q := 20) dX8_init_19 rfl rfl ?_
  refine x_callI (q := 23) (b := N + 7) (As := []) imX1_init rfl rfl ivX1_init mwX8_9 dX8_init_20 rfl rfl rfl (Nat.le_of_ble_eq_true rfl) ?_
  refine (k_X1 G l _ (xup M (N + 7) (.inr (4, [.null, .null, .null, .null, .null, .null, .int 0]))) (N + 7 + 1) (S + 31 + 7) (N + 7)  (xup_s _ _ _) (by omega) (by omega) (by omega)).mono (fun r9 M9 N9 S9 hp => ?_)
  obtain ⟨rfl, rfl, rfl, f0_7, f1_7, hf0_7, hf1_7, hc⟩ := hp
  have hk : nbk M0 M9 a N (.inr (11, [.ref (N), .null, .null, .null, .null, .null, .null, .null, .null, .null, .null, .null, .int 0, .long 0])) (B_X1 (N)  f0_0 f1_0 ++ B_X1 (N + 7)  f0_7 f1_7) := nbk.sub (k := 7) hk ha (by simp only [B_X1_len, B_X7_len, B_X4_len, B_X5_len, B_X0_len, B_X6_len, B_X2_len, List.length_append, List.length_cons, List.length_nil]) hc
  clear hc
  generalize M9 = M at hk ⊢
  show xX G l _ _ _ 23 _ _ M (N + 14) (S + 62)
  refine x_putF (q := 26) (v := .ref (N + 7)) (ty := .object "InfluenceRows$Beams") xclX8 1 fwX8_16 (by decide) rfl rfl rfl dX8_init_23 rfl (by decide +kernel) rfl rfl (Nat.le_of_ble_eq_true rfl) hk.1 ?_
  have hk : nbk M0 (xup M a (.inr (11, [.ref (N), .ref (N + 7), .null, .null, .null, .null, .null, .null, .null, .null, .null, .null, .int 0, .long 0]))) a N (.inr (11, [.ref (N), .ref (N + 7), .null, .null, .null, .null, .null, .null, .null, .null, .null, .null, .int 0, .long 0])) (B_X1 (N)  f0_0 f1_0 ++ B_X1 (N + 7)  f0_7 f1_7) := nbk.put hk ha _
  show xX G l _ _ _ 26 _ _ (xup M a (.inr (11, [.ref (N), .ref (N + 7), .null, .null, .null, .null, .null, .null, .null, .null, .null, .null, .int 0, .long 0]))) _ _
  generalize xup M a _ = M at hk ⊢
  refine x_aload_n (q := 27) dX8_init_26 rfl rfl ?_
  refine x_new (q := 30) (fs := [.null, .int 0, .int 0]) xclX7 nwX8_19 in1X7 in2X7 (fun j hj => by rcases (by omega : j = 0 ∨ j = 1 ∨ j = 2) with rfl | rfl | rfl <;> rfl) dX8_init_27 rfl (by omega) (by omega) (fun _ => ?_)
  refine x_dup (q := 31) dX8_init_30 rfl rfl ?_
  refine x_callIN (q := 34) (b := N + 14) (As := []) imX7_init rfl rfl ivX7_init mnX8_21 dX8_init_31 rfl rfl rfl (Nat.le_of_ble_eq_true rfl) ?_
  refine (k_X7 G l _ (xup M (N + 14) (.inr (10, [.null, .int 0, .int 0]))) (N + 14 + 1) (S + 62 + 3) (N + 14)  (xup_s _ _ _) (by omega) (by omega) (by omega)).mono (fun r9 M9 N9 S9 hp => ?_)
  obtain ⟨rfl, rfl, rfl, hc⟩ := hp
  have hk : nbk M0 M9 a N (.inr (11, [.ref (N), .ref (N + 7), .null, .null, .null, .null, .null, .null, .null, .null, .null, .null, .int 0, .long 0])) (B_X1 (N)  f0_0 f1_0 ++ B_X1 (N + 7)  f0_7 f1_7 ++ B_X7 (N + 14)) := nbk.sub (k := 14) hk ha (by simp only [B_X1_len, B_X7_len, B_X4_len, B_X5_len, B_X0_len, B_X6_len, B_X2_len, List.length_append, List.length_cons, List.length_nil]) hc
  clear hc
  generalize M9 = M at hk ⊢
  show xX G l _ _ _ 34 _ _ M (N + 16) (S + 115)
  refine x_putF (q := 37) (v := .ref (N + 14)) (ty := .object "InfluenceRows$Sheet") xclX8 2 fwX8_22 (by decide) rfl rfl rfl dX8_init_34 rfl (by decide +kernel) rfl rfl (Nat.le_of_ble_eq_true rfl) hk.1 ?_
  have hk : nbk M0 (xup M a (.inr (11, [.ref (N), .ref (N + 7), .ref (N + 14), .null, .null, .null, .null, .null, .null, .null, .null, .null, .int 0, .long 0]))) a N (.inr (11, [.ref (N), .ref (N + 7), .ref (N + 14), .null, .null, .null, .null, .null, .null, .null, .null, .null, .int 0, .long 0])) (B_X1 (N)  f0_0 f1_0 ++ B_X1 (N + 7)  f0_7 f1_7 ++ B_X7 (N + 14)) := nbk.put hk ha _
  show xX G l _ _ _ 37 _ _ (xup M a (.inr (11, [.ref (N), .ref (N + 7), .ref (N + 14), .null, .null, .null, .null, .null, .null, .null, .null, .null, .int 0, .long 0]))) _ _
  generalize xup M a _ = M at hk ⊢
  refine x_aload_n (q := 38) dX8_init_37 rfl rfl ?_
  refine x_new (q := 41) (fs := [.null, .null, .null, .null, .null, .null, .null, .null, .null, .null, .null, .null, .long 0, .int 0]) xclX4 nwX8_26 in1X4 in2X4 (fun j hj => by rcases (by omega : j = 0 ∨ j = 1 ∨ j = 2 ∨ j = 3 ∨ j = 4 ∨ j = 5 ∨ j = 6 ∨ j = 7 ∨ j = 8 ∨ j = 9 ∨ j = 10 ∨ j = 11 ∨ j = 12 ∨ j = 13) with rfl | rfl | rfl | rfl | rfl | rfl | rfl | rfl | rfl | rfl | rfl | rfl | rfl | rfl <;> rfl) dX8_init_38 rfl (by omega) (by omega) (fun _ => ?_)
  refine x_dup (q := 42) dX8_init_41 rfl rfl ?_
  refine x_aload_n (q := 43) dX8_init_42 rfl rfl ?_
  refine x_get (q := 46) xclX8 0 fwX8_10 (by decide) dX8_init_43 rfl ((xup_n (by omega)).trans hk.1) rfl ?_
  refine x_callI (q := 49) (b := N + 16) (As := [.ref (N)]) imX4_init rfl rfl ivX4_init mwX8_28 dX8_init_46 rfl rfl rfl (Nat.le_of_ble_eq_true rfl) ?_
  refine (k_X4 G l _ (xup M (N + 16) (.inr (7, [.null, .null, .null, .null, .null, .null, .null, .null, .null, .null, .null, .null, .long 0, .int 0]))) (N + 16 + 1) (S + 115 + 14) (N + 16) (N) (xup_s _ _ _) (by omega) (by omega) (by omega)).mono (fun r9 M9 N9 S9 hp => ?_)
  obtain ⟨rfl, rfl, rfl, f_16, hf_16, hc⟩ := hp
  have hk : nbk M0 M9 a N (.inr (11, [.ref (N), .ref (N + 7), .ref (N + 14), .null, .null, .null, .null, .null, .null, .null, .null, .null, .int 0, .long 0])) (B_X1 (N)  f0_0 f1_0 ++ B_X1 (N + 7)  f0_7 f1_7 ++ B_X7 (N + 14) ++ B_X4 (N + 16) (N) f_16) := nbk.sub (k := 16) hk ha (by simp only [B_X1_len, B_X7_len, B_X4_len, B_X5_len, B_X0_len, B_X6_len, B_X2_len, List.length_append, List.length_cons, List.length_nil]) hc
  clear hc
  generalize M9 = M at hk ⊢
  show xX G l _ _ _ 49 _ _ M (N + 142) (S + 1439)
  refine x_putF (q := 52) (v := .ref (N + 16)) (ty := .object "InfluenceRows$Frame") xclX8 3 fwX8_31 (by decide) rfl rfl rfl dX8_init_49 rfl (by decide +kernel) rfl rfl (Nat.le_of_ble_eq_true rfl) hk.1 ?_
  have hk : nbk M0 (xup M a (.inr (11, [.ref (N), .ref (N + 7), .ref (N + 14), .ref (N + 16), .null, .null, .null, .null, .null, .null, .null, .null, .int 0, .long 0]))) a N (.inr (11, [.ref (N), .ref (N + 7), .ref (N + 14), .ref (N + 16), .null, .null, .null, .null, .null, .null, .null, .null, .int 0, .long 0])) (B_X1 (N)  f0_0 f1_0 ++ B_X1 (N + 7)  f0_7 f1_7 ++ B_X7 (N + 14) ++ B_X4 (N + 16) (N) f_16) := nbk.put hk ha _
  show xX G l _ _ _ 52 _ _ (xup M a (.inr (11, [.ref (N), .ref (N + 7), .ref (N + 14), .ref (N + 16), .null, .null, .null, .null, .null, .null, .null, .null, .int 0, .long 0]))) _ _
  generalize xup M a _ = M at hk ⊢
  refine x_aload_n (q := 53) dX8_init_52 rfl rfl ?_
  refine x_new (q := 56) (fs := [.null, .null, .null, .null, .null, .null, .int 0, .int 0, .int 0, .int 0, .int 0, .long 0, .long 0]) xclX5 nwX8_35 in1X5 in2X5 (fun j hj => by rcases (by omega : j = 0 ∨ j = 1 ∨ j = 2 ∨ j = 3 ∨ j = 4 ∨ j = 5 ∨ j = 6 ∨ j = 7 ∨ j = 8 ∨ j = 9 ∨ j = 10 ∨ j = 11 ∨ j = 12) with rfl | rfl | rfl | rfl | rfl | rfl | rfl | rfl | rfl | rfl | rfl | rfl | rfl <;> rfl) dX8_init_53 rfl (by omega) (by omega) (fun _ => ?_)
  refine x_dup (q := 57) dX8_init_56 rfl rfl ?_
  refine x_aload_n (q := 58) dX8_init_57 rfl rfl ?_
  refine x_get (q := 61) xclX8 0 fwX8_10 (by decide) dX8_init_58 rfl ((xup_n (by omega)).trans hk.1) rfl ?_
  refine x_aload_n (q := 62) dX8_init_61 rfl rfl ?_
  refine x_get (q := 65) xclX8 3 fwX8_31 (by decide) dX8_init_62 rfl ((xup_n (by omega)).trans hk.1) rfl ?_
  refine x_callI (q := 68) (b := N + 142) (As := [.ref (N), .ref (N + 16)]) imX5_init rfl rfl ivX5_init mwX8_37 dX8_init_65 rfl rfl rfl (Nat.le_of_ble_eq_true rfl) ?_
  refine (k_X5 G l _ (xup M (N + 142) (.inr (8, [.null, .null, .null, .null, .null, .null, .int 0, .int 0, .int 0, .int 0, .int 0, .long 0, .long 0]))) (N + 142 + 1) (S + 1439 + 13) (N + 142) (N) (N + 16) (xup_s _ _ _) (by omega) (by omega) (by omega)).mono (fun r9 M9 N9 S9 hp => ?_)
  obtain ⟨rfl, rfl, rfl, hc⟩ := hp
  have hk : nbk M0 M9 a N (.inr (11, [.ref (N), .ref (N + 7), .ref (N + 14), .ref (N + 16), .null, .null, .null, .null, .null, .null, .null, .null, .int 0, .long 0])) (B_X1 (N)  f0_0 f1_0 ++ B_X1 (N + 7)  f0_7 f1_7 ++ B_X7 (N + 14) ++ B_X4 (N + 16) (N) f_16 ++ B_X5 (N + 142) (N) (N + 16)) := nbk.sub (k := 142) hk ha (by simp only [B_X1_len, B_X7_len, B_X4_len, B_X5_len, B_X0_len, B_X6_len, B_X2_len, List.length_append, List.length_cons, List.length_nil]) hc
  clear hc
  generalize M9 = M at hk ⊢
  show xX G l _ _ _ 68 _ _ M (N + 148) (S + 1495)
  refine x_putF (q := 71) (v := .ref (N + 142)) (ty := .object "InfluenceRows$Probe") xclX8 4 fwX8_40 (by decide) rfl rfl rfl dX8_init_68 rfl (by decide +kernel) rfl rfl (Nat.le_of_ble_eq_true rfl) hk.1 ?_
  have hk : nbk M0 (xup M a (.inr (11, [.ref (N), .ref (N + 7), .ref (N + 14), .ref (N + 16), .ref (N + 142), .null, .null, .null, .null, .null, .null, .null, .int 0, .long 0]))) a N (.inr (11, [.ref (N), .ref (N + 7), .ref (N + 14), .ref (N + 16), .ref (N + 142), .null, .null, .null, .null, .null, .null, .null, .int 0, .long 0])) (B_X1 (N)  f0_0 f1_0 ++ B_X1 (N + 7)  f0_7 f1_7 ++ B_X7 (N + 14) ++ B_X4 (N + 16) (N) f_16 ++ B_X5 (N + 142) (N) (N + 16)) := nbk.put hk ha _
  show xX G l _ _ _ 71 _ _ (xup M a (.inr (11, [.ref (N), .ref (N + 7), .ref (N + 14), .ref (N + 16), .ref (N + 142), .null, .null, .null, .null, .null, .null, .null, .int 0, .long 0]))) _ _
  generalize xup M a _ = M at hk ⊢
  refine x_aload_n (q := 72) dX8_init_71 rfl rfl ?_
  refine x_new (q := 75) (fs := [.null, .null, .null, .null, .null, .null, .int 0, .int 0, .int 0, .int 0, .int 0, .long 0, .long 0]) xclX5 nwX8_35 in1X5 in2X5 (fun j hj => by rcases (by omega : j = 0 ∨ j = 1 ∨ j = 2 ∨ j = 3 ∨ j = 4 ∨ j = 5 ∨ j = 6 ∨ j = 7 ∨ j = 8 ∨ j = 9 ∨ j = 10 ∨ j = 11 ∨ j = 12) with rfl | rfl | rfl | rfl | rfl | rfl | rfl | rfl | rfl | rfl | rfl | rfl | rfl <;> rfl) dX8_init_72 rfl (by omega) (by omega) (fun _ => ?_)
  refine x_dup (q := 76) dX8_init_75 rfl rfl ?_
  refine x_aload_n (q := 77) dX8_init_76 rfl rfl ?_
  refine x_get (q := 80) xclX8 0 fwX8_10 (by decide) dX8_init_77 rfl ((xup_n (by omega)).trans hk.1) rfl ?_
  refine x_aload_n (q := 81) dX8_init_80 rfl rfl ?_
  refine x_get (q := 84) xclX8 3 fwX8_31 (by decide) dX8_init_81 rfl ((xup_n (by omega)).trans hk.1) rfl ?_
  refine x_callI (q := 87) (b := N + 148) (As := [.ref (N), .ref (N + 16)]) imX5_init rfl rfl ivX5_init mwX8_37 dX8_init_84 rfl rfl rfl (Nat.le_of_ble_eq_true rfl) ?_
  refine (k_X5 G l _ (xup M (N + 148) (.inr (8, [.null, .null, .null, .null, .null, .null, .int 0, .int 0, .int 0, .int 0, .int 0, .long 0, .long 0]))) (N + 148 + 1) (S + 1495 + 13) (N + 148) (N) (N + 16) (xup_s _ _ _) (by omega) (by omega) (by omega)).mono (fun r9 M9 N9 S9 hp => ?_)
  obtain ⟨rfl, rfl, rfl, hc⟩ := hp
  have hk : nbk M0 M9 a N (.inr (11, [.ref (N), .ref (N + 7), .ref (N + 14), .ref (N + 16), .ref (N + 142), .null, .null, .null, .null, .null, .null, .null, .int 0, .long 0])) (B_X1 (N)  f0_0 f1_0 ++ B_X1 (N + 7)  f0_7 f1_7 ++ B_X7 (N + 14) ++ B_X4 (N + 16) (N) f_16 ++ B_X5 (N + 142) (N) (N + 16) ++ B_X5 (N + 148) (N) (N + 16)) := nbk.sub (k := 148) hk ha (by simp only [B_X1_len, B_X7_len, B_X4_len, B_X5_len, B_X0_len, B_X6_len, B_X2_len, List.length_append, List.length_cons, List.length_nil]) hc
  clear hc
  generalize M9 = M at hk ⊢
  show xX G l _ _ _ 87 _ _ M (N + 154) (S + 1551)
  refine x_putF (q := 90) (v := .ref (N + 148)) (ty := .object "InfluenceRows$Probe") xclX8 5 fwX8_44 (by decide) rfl rfl rfl dX8_init_87 rfl (by decide +kernel) rfl rfl (Nat.le_of_ble_eq_true rfl) hk.1 ?_
  have hk : nbk M0 (xup M a (.inr (11, [.ref (N), .ref (N + 7), .ref (N + 14), .ref (N + 16), .ref (N + 142), .ref (N + 148), .null, .null, .null, .null, .null, .null, .int 0, .long 0]))) a N (.inr (11, [.ref (N), .ref (N + 7), .ref (N + 14), .ref (N + 16), .ref (N + 142), .ref (N + 148), .null, .null, .null, .null, .null, .null, .int 0, .long 0])) (B_X1 (N)  f0_0 f1_0 ++ B_X1 (N + 7)  f0_7 f1_7 ++ B_X7 (N + 14) ++ B_X4 (N + 16) (N) f_16 ++ B_X5 (N + 142) (N) (N + 16) ++ B_X5 (N + 148) (N) (N + 16)) := nbk.put hk ha _
  show xX G l _ _ _ 90 _ _ (xup M a (.inr (11, [.ref (N), .ref (N + 7), .ref (N + 14), .ref (N + 16), .ref (N + 142), .ref (N + 148), .null, .null, .null, .null, .null, .null, .int 0, .long 0]))) _ _
  generalize xup M a _ = M at hk ⊢
  refine x_aload_n (q := 91) dX8_init_90 rfl rfl ?_
  refine x_new (q := 94) (fs := [.null, .null, .null, .null, .null, .null, .null, .null, .null, .null]) xclX0 nwX8_47 in1X0 in2X0 (fun j hj => by rcases (by omega : j = 0 ∨ j = 1 ∨ j = 2 ∨ j = 3 ∨ j = 4 ∨ j = 5 ∨ j = 6 ∨ j = 7 ∨ j = 8 ∨ j = 9) with rfl | rfl | rfl | rfl | rfl | rfl | rfl | rfl | rfl | rfl <;> rfl) dX8_init_91 rfl (by omega) (by omega) (fun _ => ?_)
  refine x_dup (q := 95) dX8_init_94 rfl rfl ?_
  refine x_callIN (q := 98) (b := N + 154) (As := []) imX0_init rfl rfl ivX0_init mnX8_49 dX8_init_95 rfl rfl rfl (Nat.le_of_ble_eq_true rfl) ?_
  refine (k_X0 G l _ (xup M (N + 154) (.inr (3, [.null, .null, .null, .null, .null, .null, .null, .null, .null, .null]))) (N + 154 + 1) (S + 1551 + 10) (N + 154)  (xup_s _ _ _) (by omega) (by omega) (by omega)).mono (fun r9 M9 N9 S9 hp => ?_)
  obtain ⟨rfl, rfl, rfl, hc⟩ := hp
  have hk : nbk M0 M9 a N (.inr (11, [.ref (N), .ref (N + 7), .ref (N + 14), .ref (N + 16), .ref (N + 142), .ref (N + 148), .null, .null, .null, .null, .null, .null, .int 0, .long 0])) (B_X1 (N)  f0_0 f1_0 ++ B_X1 (N + 7)  f0_7 f1_7 ++ B_X7 (N + 14) ++ B_X4 (N + 16) (N) f_16 ++ B_X5 (N + 142) (N) (N + 16) ++ B_X5 (N + 148) (N) (N + 16) ++ B_X0 (N + 154)) := nbk.sub (k := 154) hk ha (by simp only [B_X1_len, B_X7_len, B_X4_len, B_X5_len, B_X0_len, B_X6_len, B_X2_len, List.length_append, List.length_cons, List.length_nil]) hc
  clear hc
  generalize M9 = M at hk ⊢
  show xX G l _ _ _ 98 _ _ M (N + 180) (S + 1792)
  refine x_putF (q := 101) (v := .ref (N + 154)) (ty := .object "InfluenceRows$Areas") xclX8 6 fwX8_50 (by decide) rfl rfl rfl dX8_init_98 rfl (by decide +kernel) rfl rfl (Nat.le_of_ble_eq_true rfl) hk.1 ?_
  have hk : nbk M0 (xup M a (.inr (11, [.ref (N), .ref (N + 7), .ref (N + 14), .ref (N + 16), .ref (N + 142), .ref (N + 148), .ref (N + 154), .null, .null, .null, .null, .null, .int 0, .long 0]))) a N (.inr (11, [.ref (N), .ref (N + 7), .ref (N + 14), .ref (N + 16), .ref (N + 142), .ref (N + 148), .ref (N + 154), .null, .null, .null, .null, .null, .int 0, .long 0])) (B_X1 (N)  f0_0 f1_0 ++ B_X1 (N + 7)  f0_7 f1_7 ++ B_X7 (N + 14) ++ B_X4 (N + 16) (N) f_16 ++ B_X5 (N + 142) (N) (N + 16) ++ B_X5 (N + 148) (N) (N + 16) ++ B_X0 (N + 154)) := nbk.put hk ha _
  show xX G l _ _ _ 101 _ _ (xup M a (.inr (11, [.ref (N), .ref (N + 7), .ref (N + 14), .ref (N + 16), .ref (N + 142), .ref (N + 148), .ref (N + 154), .null, .null, .null, .null, .null, .int 0, .long 0]))) _ _
  generalize xup M a _ = M at hk ⊢
  refine x_aload_n (q := 102) dX8_init_101 rfl rfl ?_
  refine x_new (q := 105) (fs := [.null, .null, .null, .null]) xclX6 nwX8_54 in1X6 in2X6 (fun j hj => by rcases (by omega : j = 0 ∨ j = 1 ∨ j = 2 ∨ j = 3) with rfl | rfl | rfl | rfl <;> rfl) dX8_init_102 rfl (by omega) (by omega) (fun _ => ?_)
  refine x_dup (q := 106) dX8_init_105 rfl rfl ?_
  refine x_callIN (q := 109) (b := N + 180) (As := []) imX6_init rfl rfl ivX6_init mnX8_56 dX8_init_106 rfl rfl rfl (Nat.le_of_ble_eq_true rfl) ?_
  refine (k_X6 G l _ (xup M (N + 180) (.inr (9, [.null, .null, .null, .null]))) (N + 180 + 1) (S + 1792 + 4) (N + 180)  (xup_s _ _ _) (by omega) (by omega) (by omega)).mono (fun r9 M9 N9 S9 hp => ?_)
  obtain ⟨rfl, rfl, rfl, hc⟩ := hp
  have hk : nbk M0 M9 a N (.inr (11, [.ref (N), .ref (N + 7), .ref (N + 14), .ref (N + 16), .ref (N + 142), .ref (N + 148), .ref (N + 154), .null, .null, .null, .null, .null, .int 0, .long 0])) (B_X1 (N)  f0_0 f1_0 ++ B_X1 (N + 7)  f0_7 f1_7 ++ B_X7 (N + 14) ++ B_X4 (N + 16) (N) f_16 ++ B_X5 (N + 142) (N) (N + 16) ++ B_X5 (N + 148) (N) (N + 16) ++ B_X0 (N + 154) ++ B_X6 (N + 180)) := nbk.sub (k := 180) hk ha (by simp only [B_X1_len, B_X7_len, B_X4_len, B_X5_len, B_X0_len, B_X6_len, B_X2_len, List.length_append, List.length_cons, List.length_nil]) hc
  clear hc
  generalize M9 = M at hk ⊢
  show xX G l _ _ _ 109 _ _ M (N + 194) (S + 1913)
  refine x_putF (q := 112) (v := .ref (N + 180)) (ty := .object "InfluenceRows$Ratio") xclX8 7 fwX8_57 (by decide) rfl rfl rfl dX8_init_109 rfl (by decide +kernel) rfl rfl (Nat.le_of_ble_eq_true rfl) hk.1 ?_
  have hk : nbk M0 (xup M a (.inr (11, [.ref (N), .ref (N + 7), .ref (N + 14), .ref (N + 16), .ref (N + 142), .ref (N + 148), .ref (N + 154), .ref (N + 180), .null, .null, .null, .null, .int 0, .long 0]))) a N (.inr (11, [.ref (N), .ref (N + 7), .ref (N + 14), .ref (N + 16), .ref (N + 142), .ref (N + 148), .ref (N + 154), .ref (N + 180), .null, .null, .null, .null, .int 0, .long 0])) (B_X1 (N)  f0_0 f1_0 ++ B_X1 (N + 7)  f0_7 f1_7 ++ B_X7 (N + 14) ++ B_X4 (N + 16) (N) f_16 ++ B_X5 (N + 142) (N) (N + 16) ++ B_X5 (N + 148) (N) (N + 16) ++ B_X0 (N + 154) ++ B_X6 (N + 180)) := nbk.put hk ha _
  show xX G l _ _ _ 112 _ _ (xup M a (.inr (11, [.ref (N), .ref (N + 7), .ref (N + 14), .ref (N + 16), .ref (N + 142), .ref (N + 148), .ref (N + 154), .ref (N + 180), .null, .null, .null, .null, .int 0, .long 0]))) _ _
  generalize xup M a _ = M at hk ⊢
  refine x_aload_n (q := 113) dX8_init_112 rfl rfl ?_
  refine x_new (q := 116) (fs := [.int 0, .int 0, .null]) xclX2 nwX8_61 in1X2 in2X2 (fun j hj => by rcases (by omega : j = 0 ∨ j = 1 ∨ j = 2) with rfl | rfl | rfl <;> rfl) dX8_init_113 rfl (by omega) (by omega) (fun _ => ?_)
  refine x_dup (q := 117) dX8_init_116 rfl rfl ?_
  refine x_callIN (q := 120) (b := N + 194) (As := []) imX2_init rfl rfl ivX2_init mnX8_63 dX8_init_117 rfl rfl rfl (Nat.le_of_ble_eq_true rfl) ?_
  refine (k_X2 G l _ (xup M (N + 194) (.inr (5, [.int 0, .int 0, .null]))) (N + 194 + 1) (S + 1913 + 3) (N + 194)  (xup_s _ _ _) (by omega) (by omega) (by omega)).mono (fun r9 M9 N9 S9 hp => ?_)
  obtain ⟨rfl, rfl, rfl, hc⟩ := hp
  have hk : nbk M0 M9 a N (.inr (11, [.ref (N), .ref (N + 7), .ref (N + 14), .ref (N + 16), .ref (N + 142), .ref (N + 148), .ref (N + 154), .ref (N + 180), .null, .null, .null, .null, .int 0, .long 0])) (B_X1 (N)  f0_0 f1_0 ++ B_X1 (N + 7)  f0_7 f1_7 ++ B_X7 (N + 14) ++ B_X4 (N + 16) (N) f_16 ++ B_X5 (N + 142) (N) (N + 16) ++ B_X5 (N + 148) (N) (N + 16) ++ B_X0 (N + 154) ++ B_X6 (N + 180) ++ B_X2 (N + 194)) := nbk.sub (k := 194) hk ha (by simp only [B_X1_len, B_X7_len, B_X4_len, B_X5_len, B_X0_len, B_X6_len, B_X2_len, List.length_append, List.length_cons, List.length_nil]) hc
  clear hc
  generalize M9 = M at hk ⊢
  show xX G l _ _ _ 120 _ _ M (N + 196) (S + 1932)
  refine x_putF (q := 123) (v := .ref (N + 194)) (ty := .object "InfluenceRows$Big") xclX8 8 fwX8_64 (by decide) rfl rfl rfl dX8_init_120 rfl (by decide +kernel) rfl rfl (Nat.le_of_ble_eq_true rfl) hk.1 ?_
  have hk : nbk M0 (xup M a (.inr (11, [.ref (N), .ref (N + 7), .ref (N + 14), .ref (N + 16), .ref (N + 142), .ref (N + 148), .ref (N + 154), .ref (N + 180), .ref (N + 194), .null, .null, .null, .int 0, .long 0]))) a N (.inr (11, [.ref (N), .ref (N + 7), .ref (N + 14), .ref (N + 16), .ref (N + 142), .ref (N + 148), .ref (N + 154), .ref (N + 180), .ref (N + 194), .null, .null, .null, .int 0, .long 0])) (B_X1 (N)  f0_0 f1_0 ++ B_X1 (N + 7)  f0_7 f1_7 ++ B_X7 (N + 14) ++ B_X4 (N + 16) (N) f_16 ++ B_X5 (N + 142) (N) (N + 16) ++ B_X5 (N + 148) (N) (N + 16) ++ B_X0 (N + 154) ++ B_X6 (N + 180) ++ B_X2 (N + 194)) := nbk.put hk ha _
  show xX G l _ _ _ 123 _ _ (xup M a (.inr (11, [.ref (N), .ref (N + 7), .ref (N + 14), .ref (N + 16), .ref (N + 142), .ref (N + 148), .ref (N + 154), .ref (N + 180), .ref (N + 194), .null, .null, .null, .int 0, .long 0]))) _ _
  generalize xup M a _ = M at hk ⊢
  refine x_aload_n (q := 124) dX8_init_123 rfl rfl ?_
  refine xn_bipush (q := 126) 8 dX8_init_124 rfl (by decide) ?_
  refine x_newa (q := 128) (at0 := .int) (ty := .int) (n := 8) (a0 := (8, .inl (fun _ => 0))) 0 rfl rfl (fun C h => by cases h) ac_int (fun cA => rfl) (by decide) (by decide) (by decide) dX8_init_126 rfl (by omega) (by omega) (fun _ => ?_)
  have hk : nbk M0 (xup M (N + 196) (iaZ 8)) a N (.inr (11, [.ref (N), .ref (N + 7), .ref (N + 14), .ref (N + 16), .ref (N + 142), .ref (N + 148), .ref (N + 154), .ref (N + 180), .ref (N + 194), .null, .null, .null, .int 0, .long 0])) (B_X1 (N)  f0_0 f1_0 ++ B_X1 (N + 7)  f0_7 f1_7 ++ B_X7 (N + 14) ++ B_X4 (N + 16) (N) f_16 ++ B_X5 (N + 142) (N) (N + 16) ++ B_X5 (N + 148) (N) (N + 16) ++ B_X0 (N + 154) ++ B_X6 (N + 180) ++ B_X2 (N + 194) ++ [iaZ 8]) := nbk.arr (k := 196) hk ha (by simp only [B_X1_len, B_X7_len, B_X4_len, B_X5_len, B_X0_len, B_X6_len, B_X2_len, List.length_append, List.length_cons, List.length_nil]) _
  generalize xup M (N + 196) _ = M at hk ⊢
  show xX G l _ _ _ 128 _ _ M (N + 197) (S + 1940)
  refine x_putF (q := 131) (v := .ref (N + 196)) (ty := .array .int) xclX8 9 fwX8_68 (by decide) rfl rfl rfl dX8_init_128 rfl (by decide +kernel) rfl rfl (Nat.le_of_ble_eq_true rfl) hk.1 ?_
  have hk : nbk M0 (xup M a (.inr (11, [.ref (N), .ref (N + 7), .ref (N + 14), .ref (N + 16), .ref (N + 142), .ref (N + 148), .ref (N + 154), .ref (N + 180), .ref (N + 194), .ref (N + 196), .null, .null, .int 0, .long 0]))) a N (.inr (11, [.ref (N), .ref (N + 7), .ref (N + 14), .ref (N + 16), .ref (N + 142), .ref (N + 148), .ref (N + 154), .ref (N + 180), .ref (N + 194), .ref (N + 196), .null, .null, .int 0, .long 0])) (B_X1 (N)  f0_0 f1_0 ++ B_X1 (N + 7)  f0_7 f1_7 ++ B_X7 (N + 14) ++ B_X4 (N + 16) (N) f_16 ++ B_X5 (N + 142) (N) (N + 16) ++ B_X5 (N + 148) (N) (N + 16) ++ B_X0 (N + 154) ++ B_X6 (N + 180) ++ B_X2 (N + 194) ++ [iaZ 8]) := nbk.put hk ha _
  show xX G l _ _ _ 131 _ _ (xup M a (.inr (11, [.ref (N), .ref (N + 7), .ref (N + 14), .ref (N + 16), .ref (N + 142), .ref (N + 148), .ref (N + 154), .ref (N + 180), .ref (N + 194), .ref (N + 196), .null, .null, .int 0, .long 0]))) _ _
  generalize xup M a _ = M at hk ⊢
  refine x_aload_n (q := 132) dX8_init_131 rfl rfl ?_
  refine xn_bipush (q := 134) 8 dX8_init_132 rfl (by decide) ?_
  refine x_newa (q := 136) (at0 := .int) (ty := .int) (n := 8) (a0 := (8, .inl (fun _ => 0))) 0 rfl rfl (fun C h => by cases h) ac_int (fun cA => rfl) (by decide) (by decide) (by decide) dX8_init_134 rfl (by omega) (by omega) (fun _ => ?_)
  have hk : nbk M0 (xup M (N + 197) (iaZ 8)) a N (.inr (11, [.ref (N), .ref (N + 7), .ref (N + 14), .ref (N + 16), .ref (N + 142), .ref (N + 148), .ref (N + 154), .ref (N + 180), .ref (N + 194), .ref (N + 196), .null, .null, .int 0, .long 0])) (B_X1 (N)  f0_0 f1_0 ++ B_X1 (N + 7)  f0_7 f1_7 ++ B_X7 (N + 14) ++ B_X4 (N + 16) (N) f_16 ++ B_X5 (N + 142) (N) (N + 16) ++ B_X5 (N + 148) (N) (N + 16) ++ B_X0 (N + 154) ++ B_X6 (N + 180) ++ B_X2 (N + 194) ++ [iaZ 8] ++ [iaZ 8]) := nbk.arr (k := 197) hk ha (by simp only [B_X1_len, B_X7_len, B_X4_len, B_X5_len, B_X0_len, B_X6_len, B_X2_len, List.length_append, List.length_cons, List.length_nil]) _
  generalize xup M (N + 197) _ = M at hk ⊢
  show xX G l _ _ _ 136 _ _ M (N + 198) (S + 1948)
  refine x_putF (q := 139) (v := .ref (N + 197)) (ty := .array .int) xclX8 10 fwX8_72 (by decide) rfl rfl rfl dX8_init_136 rfl (by decide +kernel) rfl rfl (Nat.le_of_ble_eq_true rfl) hk.1 ?_
  have hk : nbk M0 (xup M a (.inr (11, [.ref (N), .ref (N + 7), .ref (N + 14), .ref (N + 16), .ref (N + 142), .ref (N + 148), .ref (N + 154), .ref (N + 180), .ref (N + 194), .ref (N + 196), .ref (N + 197), .null, .int 0, .long 0]))) a N (.inr (11, [.ref (N), .ref (N + 7), .ref (N + 14), .ref (N + 16), .ref (N + 142), .ref (N + 148), .ref (N + 154), .ref (N + 180), .ref (N + 194), .ref (N + 196), .ref (N + 197), .null, .int 0, .long 0])) (B_X1 (N)  f0_0 f1_0 ++ B_X1 (N + 7)  f0_7 f1_7 ++ B_X7 (N + 14) ++ B_X4 (N + 16) (N) f_16 ++ B_X5 (N + 142) (N) (N + 16) ++ B_X5 (N + 148) (N) (N + 16) ++ B_X0 (N + 154) ++ B_X6 (N + 180) ++ B_X2 (N + 194) ++ [iaZ 8] ++ [iaZ 8]) := nbk.put hk ha _
  show xX G l _ _ _ 139 _ _ (xup M a (.inr (11, [.ref (N), .ref (N + 7), .ref (N + 14), .ref (N + 16), .ref (N + 142), .ref (N + 148), .ref (N + 154), .ref (N + 180), .ref (N + 194), .ref (N + 196), .ref (N + 197), .null, .int 0, .long 0]))) _ _
  generalize xup M a _ = M at hk ⊢
  refine x_aload_n (q := 140) dX8_init_139 rfl rfl ?_
  refine xn_bipush (q := 142) 8 dX8_init_140 rfl (by decide) ?_
  refine x_newa (q := 144) (at0 := .int) (ty := .int) (n := 8) (a0 := (8, .inl (fun _ => 0))) 0 rfl rfl (fun C h => by cases h) ac_int (fun cA => rfl) (by decide) (by decide) (by decide) dX8_init_142 rfl (by omega) (by omega) (fun _ => ?_)
  have hk : nbk M0 (xup M (N + 198) (iaZ 8)) a N (.inr (11, [.ref (N), .ref (N + 7), .ref (N + 14), .ref (N + 16), .ref (N + 142), .ref (N + 148), .ref (N + 154), .ref (N + 180), .ref (N + 194), .ref (N + 196), .ref (N + 197), .null, .int 0, .long 0])) (B_X1 (N)  f0_0 f1_0 ++ B_X1 (N + 7)  f0_7 f1_7 ++ B_X7 (N + 14) ++ B_X4 (N + 16) (N) f_16 ++ B_X5 (N + 142) (N) (N + 16) ++ B_X5 (N + 148) (N) (N + 16) ++ B_X0 (N + 154) ++ B_X6 (N + 180) ++ B_X2 (N + 194) ++ [iaZ 8] ++ [iaZ 8] ++ [iaZ 8]) := nbk.arr (k := 198) hk ha (by simp only [B_X1_len, B_X7_len, B_X4_len, B_X5_len, B_X0_len, B_X6_len, B_X2_len, List.length_append, List.length_cons, List.length_nil]) _
  generalize xup M (N + 198) _ = M at hk ⊢
  show xX G l _ _ _ 144 _ _ M (N + 199) (S + 1956)
  refine x_putF (q := 147) (v := .ref (N + 198)) (ty := .array .int) xclX8 11 fwX8_75 (by decide) rfl rfl rfl dX8_init_144 rfl (by decide +kernel) rfl rfl (Nat.le_of_ble_eq_true rfl) hk.1 ?_
  have hk : nbk M0 (xup M a (.inr (11, [.ref (N), .ref (N + 7), .ref (N + 14), .ref (N + 16), .ref (N + 142), .ref (N + 148), .ref (N + 154), .ref (N + 180), .ref (N + 194), .ref (N + 196), .ref (N + 197), .ref (N + 198), .int 0, .long 0]))) a N (.inr (11, [.ref (N), .ref (N + 7), .ref (N + 14), .ref (N + 16), .ref (N + 142), .ref (N + 148), .ref (N + 154), .ref (N + 180), .ref (N + 194), .ref (N + 196), .ref (N + 197), .ref (N + 198), .int 0, .long 0])) (B_X1 (N)  f0_0 f1_0 ++ B_X1 (N + 7)  f0_7 f1_7 ++ B_X7 (N + 14) ++ B_X4 (N + 16) (N) f_16 ++ B_X5 (N + 142) (N) (N + 16) ++ B_X5 (N + 148) (N) (N + 16) ++ B_X0 (N + 154) ++ B_X6 (N + 180) ++ B_X2 (N + 194) ++ [iaZ 8] ++ [iaZ 8] ++ [iaZ 8]) := nbk.put hk ha _
  show xX G l _ _ _ 147 _ _ (xup M a (.inr (11, [.ref (N), .ref (N + 7), .ref (N + 14), .ref (N + 16), .ref (N + 142), .ref (N + 148), .ref (N + 154), .ref (N + 180), .ref (N + 194), .ref (N + 196), .ref (N + 197), .ref (N + 198), .int 0, .long 0]))) _ _
  generalize xup M a _ = M at hk ⊢
  refine x_aload_n (q := 148) dX8_init_147 rfl rfl ?_
  refine xn_iconst (q := 149) 0 dX8_init_148 rfl (by decide) ?_
  refine x_put (q := 152) (v := .int (nI 0)) (ty := .int) xclX8 12 fwX8_78 (by decide) rfl dX8_init_149 rfl (by decide +kernel) rfl rfl (Nat.le_of_ble_eq_true rfl) hk.1 ?_
  have hk : nbk M0 (xup M a (.inr (11, [.ref (N), .ref (N + 7), .ref (N + 14), .ref (N + 16), .ref (N + 142), .ref (N + 148), .ref (N + 154), .ref (N + 180), .ref (N + 194), .ref (N + 196), .ref (N + 197), .ref (N + 198), .int (nI 0), .long 0]))) a N (.inr (11, [.ref (N), .ref (N + 7), .ref (N + 14), .ref (N + 16), .ref (N + 142), .ref (N + 148), .ref (N + 154), .ref (N + 180), .ref (N + 194), .ref (N + 196), .ref (N + 197), .ref (N + 198), .int (nI 0), .long 0])) (B_X1 (N)  f0_0 f1_0 ++ B_X1 (N + 7)  f0_7 f1_7 ++ B_X7 (N + 14) ++ B_X4 (N + 16) (N) f_16 ++ B_X5 (N + 142) (N) (N + 16) ++ B_X5 (N + 148) (N) (N + 16) ++ B_X0 (N + 154) ++ B_X6 (N + 180) ++ B_X2 (N + 194) ++ [iaZ 8] ++ [iaZ 8] ++ [iaZ 8]) := nbk.put hk ha _
  show xX G l _ _ _ 152 _ _ (xup M a (.inr (11, [.ref (N), .ref (N + 7), .ref (N + 14), .ref (N + 16), .ref (N + 142), .ref (N + 148), .ref (N + 154), .ref (N + 180), .ref (N + 194), .ref (N + 196), .ref (N + 197), .ref (N + 198), .int (nI 0), .long 0]))) _ _
  generalize xup M a _ = M at hk ⊢
  refine x_aload_n (q := 153) dX8_init_152 rfl rfl ?_
  refine x_ldc2 (q := 156) (-1) dX8_init_153 rfl cwX8_82 ?_
  refine x_put (q := 159) (v := .long (-1)) (ty := .long) xclX8 13 fwX8_84 (by decide) rfl dX8_init_156 rfl (by decide +kernel) rfl rfl (Nat.le_of_ble_eq_true rfl) hk.1 ?_
  have hk : nbk M0 (xup M a (.inr (11, [.ref (N), .ref (N + 7), .ref (N + 14), .ref (N + 16), .ref (N + 142), .ref (N + 148), .ref (N + 154), .ref (N + 180), .ref (N + 194), .ref (N + 196), .ref (N + 197), .ref (N + 198), .int (nI 0), .long (-1)]))) a N (.inr (11, [.ref (N), .ref (N + 7), .ref (N + 14), .ref (N + 16), .ref (N + 142), .ref (N + 148), .ref (N + 154), .ref (N + 180), .ref (N + 194), .ref (N + 196), .ref (N + 197), .ref (N + 198), .int (nI 0), .long (-1)])) (B_X1 (N)  f0_0 f1_0 ++ B_X1 (N + 7)  f0_7 f1_7 ++ B_X7 (N + 14) ++ B_X4 (N + 16) (N) f_16 ++ B_X5 (N + 142) (N) (N + 16) ++ B_X5 (N + 148) (N) (N + 16) ++ B_X0 (N + 154) ++ B_X6 (N + 180) ++ B_X2 (N + 194) ++ [iaZ 8] ++ [iaZ 8] ++ [iaZ 8]) := nbk.put hk ha _
  show xX G l _ _ _ 159 _ _ (xup M a (.inr (11, [.ref (N), .ref (N + 7), .ref (N + 14), .ref (N + 16), .ref (N + 142), .ref (N + 148), .ref (N + 154), .ref (N + 180), .ref (N + 194), .ref (N + 196), .ref (N + 197), .ref (N + 198), .int (nI 0), .long (-1)]))) _ _
  generalize xup M a _ = M at hk ⊢
  exact x_vret rfl dX8_init_159 ⟨rfl, rfl, rfl, f0_0, f1_0, f0_7, f1_7, f_16, hf0_0, hf1_0, hf0_7, hf1_7, hf_16, hk⟩
set_option maxRecDepth 100000 in
set_option maxHeartbeats 4000000 in
theorem k_X9 (G : xG) (l : Launch) (d : Nat) (M0 : xM) (N S a : Nat)  (hM : M0 a = some (.inr (12, [.int 0, .null, .int 0, .int 0, .null, .null, .null, .null, .null, .null, .int 0, .null, .null, .null, .null, .null, .null, .null, .null, .null, .null, .int 0, .int 0, .int 0, .null, .int 0, .null, .int 0, .null, .int 0, .int 0, .null, .null, .null, .null, .null, .null, .null]))) (ha : a < N) (hN : N + 27 ≤ G.2.2.2.2.1) (hS : S + 16258 ≤ G.2.2.2.2.2) : xC G l YX9_init (d + 1) [.ref a] M0 N S (fun r M N' S' => r = none ∧ N' = N + 27 ∧ S' = S + 16258 ∧ nbk M0 M a N (.inr (12, [.int 0, .ref (N), .int 0, .int (nI 1), .ref (N + 1), .ref (N + 2), .ref (N + 3), .ref (N + 4), .ref (N + 5), .ref (N + 6), .int 0, .ref (N + 7), .ref (N + 8), .ref (N + 9), .ref (N + 10), .ref (N + 11), .ref (N + 12), .ref (N + 13), .ref (N + 14), .ref (N + 15), .ref (N + 16), .int 0, .int 0, .int 0, .ref (N + 17), .int 0, .ref (N + 18), .int 0, .ref (N + 19), .int 0, .int 0, .ref (N + 20), .ref (N + 21), .ref (N + 22), .ref (N + 23), .ref (N + 24), .ref (N + 25), .ref (N + 26)])) [iaZ 50, .inl (.int, 3, .inl oneI), .inl (.int, 3, .inl oneI), zaZ 6, .inl (.boolean, 4, .inl oneF), .inl (.boolean, 4, .inl oneF), iaZ 4, iaZ 8, iaZ 8, iaZ 8, iaZ 6400, iaZ 16, iaZ 16, iaZ 8064, iaZ 336, iaZ 336, laZ 336, laZ 120, laZ 126, iaZ 4, iaZ 4, iaZ 3, iaZ 3, zaZ 6, iaZ 360, iaZ 15, iaZ 15]) := by
  refine xC.of (ls := [(0, .ref a)]) (by decide) (Nat.le_of_ble_eq_true rfl) rfl ?_
  have hk : nbk M0 M0 a N (.inr (12, [.int 0, .null, .int 0, .int 0, .null, .null, .null, .null, .null, .null, .int 0, .null, .null, .null, .null, .null, .null, .null, .null, .null, .null, .int 0, .int 0, .int 0, .null, .int 0, .null, .int 0, .null, .int 0, .int 0, .null, .null, .null, .null, .null, .null, .null])) [] := nbk0 hM
  suffices h : ∀ M : xM, nbk M0 M a N (.inr (12, [.int 0, .null, .int 0, .int 0, .null, .null, .null, .null, .null, .null, .int 0, .null, .null, .null, .null, .null, .null, .null, .null, .null, .null, .int 0, .int 0, .int 0, .null, .int 0, .null, .int 0, .null, .int 0, .int 0, .null, .null, .null, .null, .null, .null, .null])) [] → xX G l YX9_init (d + 1) _ 0 [(0, .ref a)] [] M N S from h M0 hk
  clear hk; intro M hk
  refine x_aload_n (q := 1) dX9_init_0 rfl rfl ?_
  refine x_objInit (q := 4) owX9_1 oi1 oi2 dX9_init_1 rfl (Nat.le_of_ble_eq_true rfl) ?_
  refine x_aload_n (q := 5) dX9_init_4 rfl rfl ?_
  refine xn_bipush (q := 7) 50 dX9_init_5 rfl (by decide) ?_
  refine x_newa (q := 9) (at0 := .int) (ty := .int) (n := 50) (a0 := (50, .inl (fun _ => 0))) 0 rfl rfl (fun C h => by cases h) ac_int (fun cA => rfl) (by decide) (by decide) (by decide) dX9_init_7 rfl (by omega) (by omega) (fun _ => ?_)
  have hk : nbk M0 (xup M (N) (iaZ 50)) a N (.inr (12, [.int 0, .null, .int 0, .int 0, .null, .null, .null, .null, .null, .null, .int 0, .null, .null, .null, .null, .null, .null, .null, .null, .null, .null, .int 0, .int 0, .int 0, .null, .int 0, .null, .int 0, .null, .int 0, .int 0, .null, .null, .null, .null, .null, .null, .null])) [iaZ 50] := nbk.arr hk ha rfl _
  generalize xup M (N) _ = M at hk ⊢
  show xX G l _ _ _ 9 _ _ M (N + 1) (S + 50)
  refine x_putF (q := 12) (v := .ref (N)) (ty := .array .int) xclX9 1 fwX9_7 (by decide) rfl rfl rfl dX9_init_9 rfl (by decide +kernel) rfl rfl (Nat.le_of_ble_eq_true rfl) hk.1 ?_
  have hk : nbk M0 (xup M a (.inr (12, [.int 0, .ref (N), .int 0, .int 0, .null, .null, .null, .null, .null, .null, .int 0, .null, .null, .null, .null, .null, .null, .null, .null, .null, .null, .int 0, .int 0, .int 0, .null, .int 0, .null, .int 0, .null, .int 0, .int 0, .null, .null, .null, .null, .null, .null, .null]))) a N (.inr (12, [.int 0, .ref (N), .int 0, .int 0, .null, .null, .null, .null, .null, .null, .int 0, .null, .null, .null, .null, .null, .null, .null, .null, .null, .null, .int 0, .int 0, .int 0, .null, .int 0, .null, .int 0, .null, .int 0, .int 0, .null, .null, .null, .null, .null, .null, .null])) [iaZ 50] := nbk.put hk ha _
  show xX G l _ _ _ 12 _ _ (xup M a (.inr (12, [.int 0, .ref (N), .int 0, .int 0, .null, .null, .null, .null, .null, .null, .int 0, .null, .null, .null, .null, .null, .null, .null, .null, .null, .null, .int 0, .int 0, .int 0, .null, .int 0, .null, .int 0, .null, .int 0, .int 0, .null, .null, .null, .null, .null, .null, .null]))) _ _
  generalize xup M a _ = M at hk ⊢
  refine x_aload_n (q := 13) dX9_init_12 rfl rfl ?_
  refine xn_iconst (q := 14) 3 dX9_init_13 rfl (by decide) ?_
  refine x_newa (q := 16) (at0 := .int) (ty := .int) (n := 3) (a0 := (3, .inl (fun _ => 0))) 0 rfl rfl (fun C h => by cases h) ac_int (fun cA => rfl) (by decide) (by decide) (by decide) dX9_init_14 rfl (by omega) (by omega) (fun _ => ?_)
  have hk : nbk M0 (xup M (N + 1) (iaZ 3)) a N (.inr (12, [.int 0, .ref (N), .int 0, .int 0, .null, .null, .null, .null, .null, .null, .int 0, .null, .null, .null, .null, .null, .null, .null, .null, .null, .null, .int 0, .int 0, .int 0, .null, .int 0, .null, .int 0, .null, .int 0, .int 0, .null, .null, .null, .null, .null, .null, .null])) [iaZ 50, iaZ 3] := nbk.arr hk ha rfl _
  generalize xup M (N + 1) _ = M at hk ⊢
  show xX G l _ _ _ 16 _ _ M (N + 2) (S + 53)
  refine x_putF (q := 19) (v := .ref (N + 1)) (ty := .array .int) xclX9 4 fwX9_13 (by decide) rfl rfl rfl dX9_init_16 rfl (by decide +kernel) rfl rfl (Nat.le_of_ble_eq_true rfl) hk.1 ?_
  have hk : nbk M0 (xup M a (.inr (12, [.int 0, .ref (N), .int 0, .int 0, .ref (N + 1), .null, .null, .null, .null, .null, .int 0, .null, .null, .null, .null, .null, .null, .null, .null, .null, .null, .int 0, .int 0, .int 0, .null, .int 0, .null, .int 0, .null, .int 0, .int 0, .null, .null, .null, .null, .null, .null, .null]))) a N (.inr (12, [.int 0, .ref (N), .int 0, .int 0, .ref (N + 1), .null, .null, .null, .null, .null, .int 0, .null, .null, .null, .null, .null, .null, .null, .null, .null, .null, .int 0, .int 0, .int 0, .null, .int 0, .null, .int 0, .null, .int 0, .int 0, .null, .null, .null, .null, .null, .null, .null])) [iaZ 50, iaZ 3] := nbk.put hk ha _
  show xX G l _ _ _ 19 _ _ (xup M a (.inr (12, [.int 0, .ref (N), .int 0, .int 0, .ref (N + 1), .null, .null, .null, .null, .null, .int 0, .null, .null, .null, .null, .null, .null, .null, .null, .null, .null, .int 0, .int 0, .int 0, .null, .int 0, .null, .int 0, .null, .int 0, .int 0, .null, .null, .null, .null, .null, .null, .null]))) _ _
  generalize xup M a _ = M at hk ⊢
  refine x_aload_n (q := 20) dX9_init_19 rfl rfl ?_
  refine xn_iconst (q := 21) 3 dX9_init_20 rfl (by decide) ?_
  refine x_newa (q := 23) (at0 := .int) (ty := .int) (n := 3) (a0 := (3, .inl (fun _ => 0))) 0 rfl rfl (fun C h => by cases h) ac_int (fun cA => rfl) (by decide) (by decide) (by decide) dX9_init_21 rfl (by omega) (by omega) (fun _ => ?_)
  have hk : nbk M0 (xup M (N + 2) (iaZ 3)) a N (.inr (12, [.int 0, .ref (N), .int 0, .int 0, .ref (N + 1), .null, .null, .null, .null, .null, .int 0, .null, .null, .null, .null, .null, .null, .null, .null, .null, .null, .int 0, .int 0, .int 0, .null, .int 0, .null, .int 0, .null, .int 0, .int 0, .null, .null, .null, .null, .null, .null, .null])) [iaZ 50, iaZ 3, iaZ 3] := nbk.arr hk ha rfl _
  generalize xup M (N + 2) _ = M at hk ⊢
  show xX G l _ _ _ 23 _ _ M (N + 3) (S + 56)
  refine x_putF (q := 26) (v := .ref (N + 2)) (ty := .array .int) xclX9 5 fwX9_16 (by decide) rfl rfl rfl dX9_init_23 rfl (by decide +kernel) rfl rfl (Nat.le_of_ble_eq_true rfl) hk.1 ?_
  have hk : nbk M0 (xup M a (.inr (12, [.int 0, .ref (N), .int 0, .int 0, .ref (N + 1), .ref (N + 2), .null, .null, .null, .null, .int 0, .null, .null, .null, .null, .null, .null, .null, .null, .null, .null, .int 0, .int 0, .int 0, .null, .int 0, .null, .int 0, .null, .int 0, .int 0, .null, .null, .null, .null, .null, .null, .null]))) a N (.inr (12, [.int 0, .ref (N), .int 0, .int 0, .ref (N + 1), .ref (N + 2), .null, .null, .null, .null, .int 0, .null, .null, .null, .null, .null, .null, .null, .null, .null, .null, .int 0, .int 0, .int 0, .null, .int 0, .null, .int 0, .null, .int 0, .int 0, .null, .null, .null, .null, .null, .null, .null])) [iaZ 50, iaZ 3, iaZ 3] := nbk.put hk ha _
  show xX G l _ _ _ 26 _ _ (xup M a (.inr (12, [.int 0, .ref (N), .int 0, .int 0, .ref (N + 1), .ref (N + 2), .null, .null, .null, .null, .int 0, .null, .null, .null, .null, .null, .null, .null, .null, .null, .null, .int 0, .int 0, .int 0, .null, .int 0, .null, .int 0, .null, .int 0, .int 0, .null, .null, .null, .null, .null, .null, .null]))) _ _
  generalize xup M a _ = M at hk ⊢
  refine x_aload_n (q := 27) dX9_init_26 rfl rfl ?_
  refine xn_bipush (q := 29) 6 dX9_init_27 rfl (by decide) ?_
  refine x_newa (q := 31) (at0 := .boolean) (ty := .boolean) (n := 6) (a0 := (6, .inl (fun _ => 0))) 2 rfl rfl (fun C h => by cases h) ac_boolean (fun cA => rfl) (by decide) (by decide) (by decide) dX9_init_29 rfl (by omega) (by omega) (fun _ => ?_)
  have hk : nbk M0 (xup M (N + 3) (zaZ 6)) a N (.inr (12, [.int 0, .ref (N), .int 0, .int 0, .ref (N + 1), .ref (N + 2), .null, .null, .null, .null, .int 0, .null, .null, .null, .null, .null, .null, .null, .null, .null, .null, .int 0, .int 0, .int 0, .null, .int 0, .null, .int 0, .null, .int 0, .int 0, .null, .null, .null, .null, .null, .null, .null])) [iaZ 50, iaZ 3, iaZ 3, zaZ 6] := nbk.arr hk ha rfl _
  generalize xup M (N + 3) _ = M at hk ⊢
  show xX G l _ _ _ 31 _ _ M (N + 4) (S + 62)
  refine x_putF (q := 34) (v := .ref (N + 3)) (ty := .array .boolean) xclX9 6 fwX9_19 (by decide) rfl rfl rfl dX9_init_31 rfl (by decide +kernel) rfl rfl (Nat.le_of_ble_eq_true rfl) hk.1 ?_
  have hk : nbk M0 (xup M a (.inr (12, [.int 0, .ref (N), .int 0, .int 0, .ref (N + 1), .ref (N + 2), .ref (N + 3), .null, .null, .null, .int 0, .null, .null, .null, .null, .null, .null, .null, .null, .null, .null, .int 0, .int 0, .int 0, .null, .int 0, .null, .int 0, .null, .int 0, .int 0, .null, .null, .null, .null, .null, .null, .null]))) a N (.inr (12, [.int 0, .ref (N), .int 0, .int 0, .ref (N + 1), .ref (N + 2), .ref (N + 3), .null, .null, .null, .int 0, .null, .null, .null, .null, .null, .null, .null, .null, .null, .null, .int 0, .int 0, .int 0, .null, .int 0, .null, .int 0, .null, .int 0, .int 0, .null, .null, .null, .null, .null, .null, .null])) [iaZ 50, iaZ 3, iaZ 3, zaZ 6] := nbk.put hk ha _
  show xX G l _ _ _ 34 _ _ (xup M a (.inr (12, [.int 0, .ref (N), .int 0, .int 0, .ref (N + 1), .ref (N + 2), .ref (N + 3), .null, .null, .null, .int 0, .null, .null, .null, .null, .null, .null, .null, .null, .null, .null, .int 0, .int 0, .int 0, .null, .int 0, .null, .int 0, .null, .int 0, .int 0, .null, .null, .null, .null, .null, .null, .null]))) _ _
  generalize xup M a _ = M at hk ⊢
  refine x_aload_n (q := 35) dX9_init_34 rfl rfl ?_
  refine xn_iconst (q := 36) 4 dX9_init_35 rfl (by decide) ?_
  refine x_newa (q := 38) (at0 := .boolean) (ty := .boolean) (n := 4) (a0 := (4, .inl (fun _ => 0))) 2 rfl rfl (fun C h => by cases h) ac_boolean (fun cA => rfl) (by decide) (by decide) (by decide) dX9_init_36 rfl (by omega) (by omega) (fun _ => ?_)
  have hk : nbk M0 (xup M (N + 4) (zaZ 4)) a N (.inr (12, [.int 0, .ref (N), .int 0, .int 0, .ref (N + 1), .ref (N + 2), .ref (N + 3), .null, .null, .null, .int 0, .null, .null, .null, .null, .null, .null, .null, .null, .null, .null, .int 0, .int 0, .int 0, .null, .int 0, .null, .int 0, .null, .int 0, .int 0, .null, .null, .null, .null, .null, .null, .null])) [iaZ 50, iaZ 3, iaZ 3, zaZ 6, zaZ 4] := nbk.arr hk ha rfl _
  generalize xup M (N + 4) _ = M at hk ⊢
  show xX G l _ _ _ 38 _ _ M (N + 5) (S + 66)
  refine x_putF (q := 41) (v := .ref (N + 4)) (ty := .array .boolean) xclX9 7 fwX9_23 (by decide) rfl rfl rfl dX9_init_38 rfl (by decide +kernel) rfl rfl (Nat.le_of_ble_eq_true rfl) hk.1 ?_
  have hk : nbk M0 (xup M a (.inr (12, [.int 0, .ref (N), .int 0, .int 0, .ref (N + 1), .ref (N + 2), .ref (N + 3), .ref (N + 4), .null, .null, .int 0, .null, .null, .null, .null, .null, .null, .null, .null, .null, .null, .int 0, .int 0, .int 0, .null, .int 0, .null, .int 0, .null, .int 0, .int 0, .null, .null, .null, .null, .null, .null, .null]))) a N (.inr (12, [.int 0, .ref (N), .int 0, .int 0, .ref (N + 1), .ref (N + 2), .ref (N + 3), .ref (N + 4), .null, .null, .int 0, .null, .null, .null, .null, .null, .null, .null, .null, .null, .null, .int 0, .int 0, .int 0, .null, .int 0, .null, .int 0, .null, .int 0, .int 0, .null, .null, .null, .null, .null, .null, .null])) [iaZ 50, iaZ 3, iaZ 3, zaZ 6, zaZ 4] := nbk.put hk ha _
  show xX G l _ _ _ 41 _ _ (xup M a (.inr (12, [.int 0, .ref (N), .int 0, .int 0, .ref (N + 1), .ref (N + 2), .ref (N + 3), .ref (N + 4), .null, .null, .int 0, .null, .null, .null, .null, .null, .null, .null, .null, .null, .null, .int 0, .int 0, .int 0, .null, .int 0, .null, .int 0, .null, .int 0, .int 0, .null, .null, .null, .null, .null, .null, .null]))) _ _
  generalize xup M a _ = M at hk ⊢
  refine x_aload_n (q := 42) dX9_init_41 rfl rfl ?_
  refine xn_iconst (q := 43) 4 dX9_init_42 rfl (by decide) ?_
  refine x_newa (q := 45) (at0 := .boolean) (ty := .boolean) (n := 4) (a0 := (4, .inl (fun _ => 0))) 2 rfl rfl (fun C h => by cases h) ac_boolean (fun cA => rfl) (by decide) (by decide) (by decide) dX9_init_43 rfl (by omega) (by omega) (fun _ => ?_)
  have hk : nbk M0 (xup M (N + 5) (zaZ 4)) a N (.inr (12, [.int 0, .ref (N), .int 0, .int 0, .ref (N + 1), .ref (N + 2), .ref (N + 3), .ref (N + 4), .null, .null, .int 0, .null, .null, .null, .null, .null, .null, .null, .null, .null, .null, .int 0, .int 0, .int 0, .null, .int 0, .null, .int 0, .null, .int 0, .int 0, .null, .null, .null, .null, .null, .null, .null])) [iaZ 50, iaZ 3, iaZ 3, zaZ 6, zaZ 4, zaZ 4] := nbk.arr hk ha rfl _
  generalize xup M (N + 5) _ = M at hk ⊢
  show xX G l _ _ _ 45 _ _ M (N + 6) (S + 70)
  refine x_putF (q := 48) (v := .ref (N + 5)) (ty := .array .boolean) xclX9 8 fwX9_26 (by decide) rfl rfl rfl dX9_init_45 rfl (by decide +kernel) rfl rfl (Nat.le_of_ble_eq_true rfl) hk.1 ?_
  have hk : nbk M0 (xup M a (.inr (12, [.int 0, .ref (N), .int 0, .int 0, .ref (N + 1), .ref (N + 2), .ref (N + 3), .ref (N + 4), .ref (N + 5), .null, .int 0, .null, .null, .null, .null, .null, .null, .null, .null, .null, .null, .int 0, .int 0, .int 0, .null, .int 0, .null, .int 0, .null, .int 0, .int 0, .null, .null, .null, .null, .null, .null, .null]))) a N (.inr (12, [.int 0, .ref (N), .int 0, .int 0, .ref (N + 1), .ref (N + 2), .ref (N + 3), .ref (N + 4), .ref (N + 5), .null, .int 0, .null, .null, .null, .null, .null, .null, .null, .null, .null, .null, .int 0, .int 0, .int 0, .null, .int 0, .null, .int 0, .null, .int 0, .int 0, .null, .null, .null, .null, .null, .null, .null])) [iaZ 50, iaZ 3, iaZ 3, zaZ 6, zaZ 4, zaZ 4] := nbk.put hk ha _
  show xX G l _ _ _ 48 _ _ (xup M a (.inr (12, [.int 0, .ref (N), .int 0, .int 0, .ref (N + 1), .ref (N + 2), .ref (N + 3), .ref (N + 4), .ref (N + 5), .null, .int 0, .null, .null, .null, .null, .null, .null, .null, .null, .null, .null, .int 0, .int 0, .int 0, .null, .int 0, .null, .int 0, .null, .int 0, .int 0, .null, .null, .null, .null, .null, .null, .null]))) _ _
  generalize xup M a _ = M at hk ⊢
  refine x_aload_n (q := 49) dX9_init_48 rfl rfl ?_
  refine xn_iconst (q := 50) 4 dX9_init_49 rfl (by decide) ?_
  refine x_newa (q := 52) (at0 := .int) (ty := .int) (n := 4) (a0 := (4, .inl (fun _ => 0))) 0 rfl rfl (fun C h => by cases h) ac_int (fun cA => rfl) (by decide) (by decide) (by decide) dX9_init_50 rfl (by omega) (by omega) (fun _ => ?_)
  have hk : nbk M0 (xup M (N + 6) (iaZ 4)) a N (.inr (12, [.int 0, .ref (N), .int 0, .int 0, .ref (N + 1), .ref (N + 2), .ref (N + 3), .ref (N + 4), .ref (N + 5), .null, .int 0, .null, .null, .null, .null, .null, .null, .null, .null, .null, .null, .int 0, .int 0, .int 0, .null, .int 0, .null, .int 0, .null, .int 0, .int 0, .null, .null, .null, .null, .null, .null, .null])) [iaZ 50, iaZ 3, iaZ 3, zaZ 6, zaZ 4, zaZ 4, iaZ 4] := nbk.arr hk ha rfl _
  generalize xup M (N + 6) _ = M at hk ⊢
  show xX G l _ _ _ 52 _ _ M (N + 7) (S + 74)
  refine x_putF (q := 55) (v := .ref (N + 6)) (ty := .array .int) xclX9 9 fwX9_29 (by decide) rfl rfl rfl dX9_init_52 rfl (by decide +kernel) rfl rfl (Nat.le_of_ble_eq_true rfl) hk.1 ?_
  have hk : nbk M0 (xup M a (.inr (12, [.int 0, .ref (N), .int 0, .int 0, .ref (N + 1), .ref (N + 2), .ref (N + 3), .ref (N + 4), .ref (N + 5), .ref (N + 6), .int 0, .null, .null, .null, .null, .null, .null, .null, .null, .null, .null, .int 0, .int 0, .int 0, .null, .int 0, .null, .int 0, .null, .int 0, .int 0, .null, .null, .null, .null, .null, .null, .null]))) a N (.inr (12, [.int 0, .ref (N), .int 0, .int 0, .ref (N + 1), .ref (N + 2), .ref (N + 3), .ref (N + 4), .ref (N + 5), .ref (N + 6), .int 0, .null, .null, .null, .null, .null, .null, .null, .null, .null, .null, .int 0, .int 0, .int 0, .null, .int 0, .null, .int 0, .null, .int 0, .int 0, .null, .null, .null, .null, .null, .null, .null])) [iaZ 50, iaZ 3, iaZ 3, zaZ 6, zaZ 4, zaZ 4, iaZ 4] := nbk.put hk ha _
  show xX G l _ _ _ 55 _ _ (xup M a (.inr (12, [.int 0, .ref (N), .int 0, .int 0, .ref (N + 1), .ref (N + 2), .ref (N + 3), .ref (N + 4), .ref (N + 5), .ref (N + 6), .int 0, .null, .null, .null, .null, .null, .null, .null, .null, .null, .null, .int 0, .int 0, .int 0, .null, .int 0, .null, .int 0, .null, .int 0, .int 0, .null, .null, .null, .null, .null, .null, .null]))) _ _
  generalize xup M a _ = M at hk ⊢
  refine x_aload_n (q := 56) dX9_init_55 rfl rfl ?_
  refine xn_bipush (q := 58) 8 dX9_init_56 rfl (by decide) ?_
  refine x_newa (q := 60) (at0 := .int) (ty := .int) (n := 8) (a0 := (8, .inl (fun _ => 0))) 0 rfl rfl (fun C h => by cases h) ac_int (fun cA => rfl) (by decide) (by decide) (by decide) dX9_init_58 rfl (by omega) (by omega) (fun _ => ?_)
  have hk : nbk M0 (xup M (N + 7) (iaZ 8)) a N (.inr (12, [.int 0, .ref (N), .int 0, .int 0, .ref (N + 1), .ref (N + 2), .ref (N + 3), .ref (N + 4), .ref (N + 5), .ref (N + 6), .int 0, .null, .null, .null, .null, .null, .null, .null, .null, .null, .null, .int 0, .int 0, .int 0, .null, .int 0, .null, .int 0, .null, .int 0, .int 0, .null, .null, .null, .null, .null, .null, .null])) [iaZ 50, iaZ 3, iaZ 3, zaZ 6, zaZ 4, zaZ 4, iaZ 4, iaZ 8] := nbk.arr hk ha rfl _
  generalize xup M (N + 7) _ = M at hk ⊢
  show xX G l _ _ _ 60 _ _ M (N + 8) (S + 82)
  refine x_putF (q := 63) (v := .ref (N + 7)) (ty := .array .int) xclX9 11 fwX9_32 (by decide) rfl rfl rfl dX9_init_60 rfl (by decide +kernel) rfl rfl (Nat.le_of_ble_eq_true rfl) hk.1 ?_
  have hk : nbk M0 (xup M a (.inr (12, [.int 0, .ref (N), .int 0, .int 0, .ref (N + 1), .ref (N + 2), .ref (N + 3), .ref (N + 4), .ref (N + 5), .ref (N + 6), .int 0, .ref (N + 7), .null, .null, .null, .null, .null, .null, .null, .null, .null, .int 0, .int 0, .int 0, .null, .int 0, .null, .int 0, .null, .int 0, .int 0, .null, .null, .null, .null, .null, .null, .null]))) a N (.inr (12, [.int 0, .ref (N), .int 0, .int 0, .ref (N + 1), .ref (N + 2), .ref (N + 3), .ref (N + 4), .ref (N + 5), .ref (N + 6), .int 0, .ref (N + 7), .null, .null, .null, .null, .null, .null, .null, .null, .null, .int 0, .int 0, .int 0, .null, .int 0, .null, .int 0, .null, .int 0, .int 0, .null, .null, .null, .null, .null, .null, .null])) [iaZ 50, iaZ 3, iaZ 3, zaZ 6, zaZ 4, zaZ 4, iaZ 4, iaZ 8] := nbk.put hk ha _
  show xX G l _ _ _ 63 _ _ (xup M a (.inr (12, [.int 0, .ref (N), .int 0, .int 0, .ref (N + 1), .ref (N + 2), .ref (N + 3), .ref (N + 4), .ref (N + 5), .ref (N + 6), .int 0, .ref (N + 7), .null, .null, .null, .null, .null, .null, .null, .null, .null, .int 0, .int 0, .int 0, .null, .int 0, .null, .int 0, .null, .int 0, .int 0, .null, .null, .null, .null, .null, .null, .null]))) _ _
  generalize xup M a _ = M at hk ⊢
  refine x_aload_n (q := 64) dX9_init_63 rfl rfl ?_
  refine xn_bipush (q := 66) 8 dX9_init_64 rfl (by decide) ?_
  refine x_newa (q := 68) (at0 := .int) (ty := .int) (n := 8) (a0 := (8, .inl (fun _ => 0))) 0 rfl rfl (fun C h => by cases h) ac_int (fun cA => rfl) (by decide) (by decide) (by decide) dX9_init_66 rfl (by omega) (by omega) (fun _ => ?_)
  have hk : nbk M0 (xup M (N + 8) (iaZ 8)) a N (.inr (12, [.int 0, .ref (N), .int 0, .int 0, .ref (N + 1), .ref (N + 2), .ref (N + 3), .ref (N + 4), .ref (N + 5), .ref (N + 6), .int 0, .ref (N + 7), .null, .null, .null, .null, .null, .null, .null, .null, .null, .int 0, .int 0, .int 0, .null, .int 0, .null, .int 0, .null, .int 0, .int 0, .null, .null, .null, .null, .null, .null, .null])) [iaZ 50, iaZ 3, iaZ 3, zaZ 6, zaZ 4, zaZ 4, iaZ 4, iaZ 8, iaZ 8] := nbk.arr hk ha rfl _
  generalize xup M (N + 8) _ = M at hk ⊢
  show xX G l _ _ _ 68 _ _ M (N + 9) (S + 90)
  refine x_putF (q := 71) (v := .ref (N + 8)) (ty := .array .int) xclX9 12 fwX9_35 (by decide) rfl rfl rfl dX9_init_68 rfl (by decide +kernel) rfl rfl (Nat.le_of_ble_eq_true rfl) hk.1 ?_
  have hk : nbk M0 (xup M a (.inr (12, [.int 0, .ref (N), .int 0, .int 0, .ref (N + 1), .ref (N + 2), .ref (N + 3), .ref (N + 4), .ref (N + 5), .ref (N + 6), .int 0, .ref (N + 7), .ref (N + 8), .null, .null, .null, .null, .null, .null, .null, .null, .int 0, .int 0, .int 0, .null, .int 0, .null, .int 0, .null, .int 0, .int 0, .null, .null, .null, .null, .null, .null, .null]))) a N (.inr (12, [.int 0, .ref (N), .int 0, .int 0, .ref (N + 1), .ref (N + 2), .ref (N + 3), .ref (N + 4), .ref (N + 5), .ref (N + 6), .int 0, .ref (N + 7), .ref (N + 8), .null, .null, .null, .null, .null, .null, .null, .null, .int 0, .int 0, .int 0, .null, .int 0, .null, .int 0, .null, .int 0, .int 0, .null, .null, .null, .null, .null, .null, .null])) [iaZ 50, iaZ 3, iaZ 3, zaZ 6, zaZ 4, zaZ 4, iaZ 4, iaZ 8, iaZ 8] := nbk.put hk ha _
  show xX G l _ _ _ 71 _ _ (xup M a (.inr (12, [.int 0, .ref (N), .int 0, .int 0, .ref (N + 1), .ref (N + 2), .ref (N + 3), .ref (N + 4), .ref (N + 5), .ref (N + 6), .int 0, .ref (N + 7), .ref (N + 8), .null, .null, .null, .null, .null, .null, .null, .null, .int 0, .int 0, .int 0, .null, .int 0, .null, .int 0, .null, .int 0, .int 0, .null, .null, .null, .null, .null, .null, .null]))) _ _
  generalize xup M a _ = M at hk ⊢
  refine x_aload_n (q := 72) dX9_init_71 rfl rfl ?_
  refine xn_bipush (q := 74) 8 dX9_init_72 rfl (by decide) ?_
  refine x_newa (q := 76) (at0 := .int) (ty := .int) (n := 8) (a0 := (8, .inl (fun _ => 0))) 0 rfl rfl (fun C h => by cases h) ac_int (fun cA => rfl) (by decide) (by decide) (by decide) dX9_init_74 rfl (by omega) (by omega) (fun _ => ?_)
  have hk : nbk M0 (xup M (N + 9) (iaZ 8)) a N (.inr (12, [.int 0, .ref (N), .int 0, .int 0, .ref (N + 1), .ref (N + 2), .ref (N + 3), .ref (N + 4), .ref (N + 5), .ref (N + 6), .int 0, .ref (N + 7), .ref (N + 8), .null, .null, .null, .null, .null, .null, .null, .null, .int 0, .int 0, .int 0, .null, .int 0, .null, .int 0, .null, .int 0, .int 0, .null, .null, .null, .null, .null, .null, .null])) [iaZ 50, iaZ 3, iaZ 3, zaZ 6, zaZ 4, zaZ 4, iaZ 4, iaZ 8, iaZ 8, iaZ 8] := nbk.arr hk ha rfl _
  generalize xup M (N + 9) _ = M at hk ⊢
  show xX G l _ _ _ 76 _ _ M (N + 10) (S + 98)
  refine x_putF (q := 79) (v := .ref (N + 9)) (ty := .array .int) xclX9 13 fwX9_38 (by decide) rfl rfl rfl dX9_init_76 rfl (by decide +kernel) rfl rfl (Nat.le_of_ble_eq_true rfl) hk.1 ?_
  have hk : nbk M0 (xup M a (.inr (12, [.int 0, .ref (N), .int 0, .int 0, .ref (N + 1), .ref (N + 2), .ref (N + 3), .ref (N + 4), .ref (N + 5), .ref (N + 6), .int 0, .ref (N + 7), .ref (N + 8), .ref (N + 9), .null, .null, .null, .null, .null, .null, .null, .int 0, .int 0, .int 0, .null, .int 0, .null, .int 0, .null, .int 0, .int 0, .null, .null, .null, .null, .null, .null, .null]))) a N (.inr (12, [.int 0, .ref (N), .int 0, .int 0, .ref (N + 1), .ref (N + 2), .ref (N + 3), .ref (N + 4), .ref (N + 5), .ref (N + 6), .int 0, .ref (N + 7), .ref (N + 8), .ref (N + 9), .null, .null, .null, .null, .null, .null, .null, .int 0, .int 0, .int 0, .null, .int 0, .null, .int 0, .null, .int 0, .int 0, .null, .null, .null, .null, .null, .null, .null])) [iaZ 50, iaZ 3, iaZ 3, zaZ 6, zaZ 4, zaZ 4, iaZ 4, iaZ 8, iaZ 8, iaZ 8] := nbk.put hk ha _
  show xX G l _ _ _ 79 _ _ (xup M a (.inr (12, [.int 0, .ref (N), .int 0, .int 0, .ref (N + 1), .ref (N + 2), .ref (N + 3), .ref (N + 4), .ref (N + 5), .ref (N + 6), .int 0, .ref (N + 7), .ref (N + 8), .ref (N + 9), .null, .null, .null, .null, .null, .null, .null, .int 0, .int 0, .int 0, .null, .int 0, .null, .int 0, .null, .int 0, .int 0, .null, .null, .null, .null, .null, .null, .null]))) _ _
  generalize xup M a _ = M at hk ⊢
  refine x_aload_n (q := 80) dX9_init_79 rfl rfl ?_
  refine xn_sipush (q := 83) 6400 dX9_init_80 rfl (by decide) ?_
  refine x_newa (q := 85) (at0 := .int) (ty := .int) (n := 6400) (a0 := (6400, .inl (fun _ => 0))) 0 rfl rfl (fun C h => by cases h) ac_int (fun cA => rfl) (by decide) (by decide) (by decide) dX9_init_83 rfl (by omega) (by omega) (fun _ => ?_)
  have hk : nbk M0 (xup M (N + 10) (iaZ 6400)) a N (.inr (12, [.int 0, .ref (N), .int 0, .int 0, .ref (N + 1), .ref (N + 2), .ref (N + 3), .ref (N + 4), .ref (N + 5), .ref (N + 6), .int 0, .ref (N + 7), .ref (N + 8), .ref (N + 9), .null, .null, .null, .null, .null, .null, .null, .int 0, .int 0, .int 0, .null, .int 0, .null, .int 0, .null, .int 0, .int 0, .null, .null, .null, .null, .null, .null, .null])) [iaZ 50, iaZ 3, iaZ 3, zaZ 6, zaZ 4, zaZ 4, iaZ 4, iaZ 8, iaZ 8, iaZ 8, iaZ 6400] := nbk.arr hk ha rfl _
  generalize xup M (N + 10) _ = M at hk ⊢
  show xX G l _ _ _ 85 _ _ M (N + 11) (S + 6498)
  refine x_putF (q := 88) (v := .ref (N + 10)) (ty := .array .int) xclX9 14 fwX9_41 (by decide) rfl rfl rfl dX9_init_85 rfl (by decide +kernel) rfl rfl (Nat.le_of_ble_eq_true rfl) hk.1 ?_
  have hk : nbk M0 (xup M a (.inr (12, [.int 0, .ref (N), .int 0, .int 0, .ref (N + 1), .ref (N + 2), .ref (N + 3), .ref (N + 4), .ref (N + 5), .ref (N + 6), .int 0, .ref (N + 7), .ref (N + 8), .ref (N + 9), .ref (N + 10), .null, .null, .null, .null, .null, .null, .int 0, .int 0, .int 0, .null, .int 0, .null, .int 0, .null, .int 0, .int 0, .null, .null, .null, .null, .null, .null, .null]))) a N (.inr (12, [.int 0, .ref (N), .int 0, .int 0, .ref (N + 1), .ref (N + 2), .ref (N + 3), .ref (N + 4), .ref (N + 5), .ref (N + 6), .int 0, .ref (N + 7), .ref (N + 8), .ref (N + 9), .ref (N + 10), .null, .null, .null, .null, .null, .null, .int 0, .int 0, .int 0, .null, .int 0, .null, .int 0, .null, .int 0, .int 0, .null, .null, .null, .null, .null, .null, .null])) [iaZ 50, iaZ 3, iaZ 3, zaZ 6, zaZ 4, zaZ 4, iaZ 4, iaZ 8, iaZ 8, iaZ 8, iaZ 6400] := nbk.put hk ha _
  show xX G l _ _ _ 88 _ _ (xup M a (.inr (12, [.int 0, .ref (N), .int 0, .int 0, .ref (N + 1), .ref (N + 2), .ref (N + 3), .ref (N + 4), .ref (N + 5), .ref (N + 6), .int 0, .ref (N + 7), .ref (N + 8), .ref (N + 9), .ref (N + 10), .null, .null, .null, .null, .null, .null, .int 0, .int 0, .int 0, .null, .int 0, .null, .int 0, .null, .int 0, .int 0, .null, .null, .null, .null, .null, .null, .null]))) _ _
  generalize xup M a _ = M at hk ⊢
  refine x_aload_n (q := 89) dX9_init_88 rfl rfl ?_
  refine xn_bipush (q := 91) 16 dX9_init_89 rfl (by decide) ?_
  refine x_newa (q := 93) (at0 := .int) (ty := .int) (n := 16) (a0 := (16, .inl (fun _ => 0))) 0 rfl rfl (fun C h => by cases h) ac_int (fun cA => rfl) (by decide) (by decide) (by decide) dX9_init_91 rfl (by omega) (by omega) (fun _ => ?_)
  have hk : nbk M0 (xup M (N + 11) (iaZ 16)) a N (.inr (12, [.int 0, .ref (N), .int 0, .int 0, .ref (N + 1), .ref (N + 2), .ref (N + 3), .ref (N + 4), .ref (N + 5), .ref (N + 6), .int 0, .ref (N + 7), .ref (N + 8), .ref (N + 9), .ref (N + 10), .null, .null, .null, .null, .null, .null, .int 0, .int 0, .int 0, .null, .int 0, .null, .int 0, .null, .int 0, .int 0, .null, .null, .null, .null, .null, .null, .null])) [iaZ 50, iaZ 3, iaZ 3, zaZ 6, zaZ 4, zaZ 4, iaZ 4, iaZ 8, iaZ 8, iaZ 8, iaZ 6400, iaZ 16] := nbk.arr hk ha rfl _
  generalize xup M (N + 11) _ = M at hk ⊢
  show xX G l _ _ _ 93 _ _ M (N + 12) (S + 6514)
  refine x_putF (q := 96) (v := .ref (N + 11)) (ty := .array .int) xclX9 15 fwX9_44 (by decide) rfl rfl rfl dX9_init_93 rfl (by decide +kernel) rfl rfl (Nat.le_of_ble_eq_true rfl) hk.1 ?_
  have hk : nbk M0 (xup M a (.inr (12, [.int 0, .ref (N), .int 0, .int 0, .ref (N + 1), .ref (N + 2), .ref (N + 3), .ref (N + 4), .ref (N + 5), .ref (N + 6), .int 0, .ref (N + 7), .ref (N + 8), .ref (N + 9), .ref (N + 10), .ref (N + 11), .null, .null, .null, .null, .null, .int 0, .int 0, .int 0, .null, .int 0, .null, .int 0, .null, .int 0, .int 0, .null, .null, .null, .null, .null, .null, .null]))) a N (.inr (12, [.int 0, .ref (N), .int 0, .int 0, .ref (N + 1), .ref (N + 2), .ref (N + 3), .ref (N + 4), .ref (N + 5), .ref (N + 6), .int 0, .ref (N + 7), .ref (N + 8), .ref (N + 9), .ref (N + 10), .ref (N + 11), .null, .null, .null, .null, .null, .int 0, .int 0, .int 0, .null, .int 0, .null, .int 0, .null, .int 0, .int 0, .null, .null, .null, .null, .null, .null, .null])) [iaZ 50, iaZ 3, iaZ 3, zaZ 6, zaZ 4, zaZ 4, iaZ 4, iaZ 8, iaZ 8, iaZ 8, iaZ 6400, iaZ 16] := nbk.put hk ha _
  show xX G l _ _ _ 96 _ _ (xup M a (.inr (12, [.int 0, .ref (N), .int 0, .int 0, .ref (N + 1), .ref (N + 2), .ref (N + 3), .ref (N + 4), .ref (N + 5), .ref (N + 6), .int 0, .ref (N + 7), .ref (N + 8), .ref (N + 9), .ref (N + 10), .ref (N + 11), .null, .null, .null, .null, .null, .int 0, .int 0, .int 0, .null, .int 0, .null, .int 0, .null, .int 0, .int 0, .null, .null, .null, .null, .null, .null, .null]))) _ _
  generalize xup M a _ = M at hk ⊢
  refine x_aload_n (q := 97) dX9_init_96 rfl rfl ?_
  refine xn_bipush (q := 99) 16 dX9_init_97 rfl (by decide) ?_
  refine x_newa (q := 101) (at0 := .int) (ty := .int) (n := 16) (a0 := (16, .inl (fun _ => 0))) 0 rfl rfl (fun C h => by cases h) ac_int (fun cA => rfl) (by decide) (by decide) (by decide) dX9_init_99 rfl (by omega) (by omega) (fun _ => ?_)
  have hk : nbk M0 (xup M (N + 12) (iaZ 16)) a N (.inr (12, [.int 0, .ref (N), .int 0, .int 0, .ref (N + 1), .ref (N + 2), .ref (N + 3), .ref (N + 4), .ref (N + 5), .ref (N + 6), .int 0, .ref (N + 7), .ref (N + 8), .ref (N + 9), .ref (N + 10), .ref (N + 11), .null, .null, .null, .null, .null, .int 0, .int 0, .int 0, .null, .int 0, .null, .int 0, .null, .int 0, .int 0, .null, .null, .null, .null, .null, .null, .null])) [iaZ 50, iaZ 3, iaZ 3, zaZ 6, zaZ 4, zaZ 4, iaZ 4, iaZ 8, iaZ 8, iaZ 8, iaZ 6400, iaZ 16, iaZ 16] := nbk.arr hk ha rfl _
  generalize xup M (N + 12) _ = M at hk ⊢
  show xX G l _ _ _ 101 _ _ M (N + 13) (S + 6530)
  refine x_putF (q := 104) (v := .ref (N + 12)) (ty := .array .int) xclX9 16 fwX9_47 (by decide) rfl rfl rfl dX9_init_101 rfl (by decide +kernel) rfl rfl (Nat.le_of_ble_eq_true rfl) hk.1 ?_
  have hk : nbk M0 (xup M a (.inr (12, [.int 0, .ref (N), .int 0, .int 0, .ref (N + 1), .ref (N + 2), .ref (N + 3), .ref (N + 4), .ref (N + 5), .ref (N + 6), .int 0, .ref (N + 7), .ref (N + 8), .ref (N + 9), .ref (N + 10), .ref (N + 11), .ref (N + 12), .null, .null, .null, .null, .int 0, .int 0, .int 0, .null, .int 0, .null, .int 0, .null, .int 0, .int 0, .null, .null, .null, .null, .null, .null, .null]))) a N (.inr (12, [.int 0, .ref (N), .int 0, .int 0, .ref (N + 1), .ref (N + 2), .ref (N + 3), .ref (N + 4), .ref (N + 5), .ref (N + 6), .int 0, .ref (N + 7), .ref (N + 8), .ref (N + 9), .ref (N + 10), .ref (N + 11), .ref (N + 12), .null, .null, .null, .null, .int 0, .int 0, .int 0, .null, .int 0, .null, .int 0, .null, .int 0, .int 0, .null, .null, .null, .null, .null, .null, .null])) [iaZ 50, iaZ 3, iaZ 3, zaZ 6, zaZ 4, zaZ 4, iaZ 4, iaZ 8, iaZ 8, iaZ 8, iaZ 6400, iaZ 16, iaZ 16] := nbk.put hk ha _
  show xX G l _ _ _ 104 _ _ (xup M a (.inr (12, [.int 0, .ref (N), .int 0, .int 0, .ref (N + 1), .ref (N + 2), .ref (N + 3), .ref (N + 4), .ref (N + 5), .ref (N + 6), .int 0, .ref (N + 7), .ref (N + 8), .ref (N + 9), .ref (N + 10), .ref (N + 11), .ref (N + 12), .null, .null, .null, .null, .int 0, .int 0, .int 0, .null, .int 0, .null, .int 0, .null, .int 0, .int 0, .null, .null, .null, .null, .null, .null, .null]))) _ _
  generalize xup M a _ = M at hk ⊢
  refine x_aload_n (q := 105) dX9_init_104 rfl rfl ?_
  refine xn_sipush (q := 108) 8064 dX9_init_105 rfl (by decide) ?_
  refine x_newa (q := 110) (at0 := .int) (ty := .int) (n := 8064) (a0 := (8064, .inl (fun _ => 0))) 0 rfl rfl (fun C h => by cases h) ac_int (fun cA => rfl) (by decide) (by decide) (by decide) dX9_init_108 rfl (by omega) (by omega) (fun _ => ?_)
  have hk : nbk M0 (xup M (N + 13) (iaZ 8064)) a N (.inr (12, [.int 0, .ref (N), .int 0, .int 0, .ref (N + 1), .ref (N + 2), .ref (N + 3), .ref (N + 4), .ref (N + 5), .ref (N + 6), .int 0, .ref (N + 7), .ref (N + 8), .ref (N + 9), .ref (N + 10), .ref (N + 11), .ref (N + 12), .null, .null, .null, .null, .int 0, .int 0, .int 0, .null, .int 0, .null, .int 0, .null, .int 0, .int 0, .null, .null, .null, .null, .null, .null, .null])) [iaZ 50, iaZ 3, iaZ 3, zaZ 6, zaZ 4, zaZ 4, iaZ 4, iaZ 8, iaZ 8, iaZ 8, iaZ 6400, iaZ 16, iaZ 16, iaZ 8064] := nbk.arr hk ha rfl _
  generalize xup M (N + 13) _ = M at hk ⊢
  show xX G l _ _ _ 110 _ _ M (N + 14) (S + 14594)
  refine x_putF (q := 113) (v := .ref (N + 13)) (ty := .array .int) xclX9 17 fwX9_50 (by decide) rfl rfl rfl dX9_init_110 rfl (by decide +kernel) rfl rfl (Nat.le_of_ble_eq_true rfl) hk.1 ?_
  have hk : nbk M0 (xup M a (.inr (12, [.int 0, .ref (N), .int 0, .int 0, .ref (N + 1), .ref (N + 2), .ref (N + 3), .ref (N + 4), .ref (N + 5), .ref (N + 6), .int 0, .ref (N + 7), .ref (N + 8), .ref (N + 9), .ref (N + 10), .ref (N + 11), .ref (N + 12), .ref (N + 13), .null, .null, .null, .int 0, .int 0, .int 0, .null, .int 0, .null, .int 0, .null, .int 0, .int 0, .null, .null, .null, .null, .null, .null, .null]))) a N (.inr (12, [.int 0, .ref (N), .int 0, .int 0, .ref (N + 1), .ref (N + 2), .ref (N + 3), .ref (N + 4), .ref (N + 5), .ref (N + 6), .int 0, .ref (N + 7), .ref (N + 8), .ref (N + 9), .ref (N + 10), .ref (N + 11), .ref (N + 12), .ref (N + 13), .null, .null, .null, .int 0, .int 0, .int 0, .null, .int 0, .null, .int 0, .null, .int 0, .int 0, .null, .null, .null, .null, .null, .null, .null])) [iaZ 50, iaZ 3, iaZ 3, zaZ 6, zaZ 4, zaZ 4, iaZ 4, iaZ 8, iaZ 8, iaZ 8, iaZ 6400, iaZ 16, iaZ 16, iaZ 8064] := nbk.put hk ha _
  show xX G l _ _ _ 113 _ _ (xup M a (.inr (12, [.int 0, .ref (N), .int 0, .int 0, .ref (N + 1), .ref (N + 2), .ref (N + 3), .ref (N + 4), .ref (N + 5), .ref (N + 6), .int 0, .ref (N + 7), .ref (N + 8), .ref (N + 9), .ref (N + 10), .ref (N + 11), .ref (N + 12), .ref (N + 13), .null, .null, .null, .int 0, .int 0, .int 0, .null, .int 0, .null, .int 0, .null, .int 0, .int 0, .null, .null, .null, .null, .null, .null, .null]))) _ _
  generalize xup M a _ = M at hk ⊢
  refine x_aload_n (q := 114) dX9_init_113 rfl rfl ?_
  refine xn_sipush (q := 117) 336 dX9_init_114 rfl (by decide) ?_
  refine x_newa (q := 119) (at0 := .int) (ty := .int) (n := 336) (a0 := (336, .inl (fun _ => 0))) 0 rfl rfl (fun C h => by cases h) ac_int (fun cA => rfl) (by decide) (by decide) (by decide) dX9_init_117 rfl (by omega) (by omega) (fun _ => ?_)
  have hk : nbk M0 (xup M (N + 14) (iaZ 336)) a N (.inr (12, [.int 0, .ref (N), .int 0, .int 0, .ref (N + 1), .ref (N + 2), .ref (N + 3), .ref (N + 4), .ref (N + 5), .ref (N + 6), .int 0, .ref (N + 7), .ref (N + 8), .ref (N + 9), .ref (N + 10), .ref (N + 11), .ref (N + 12), .ref (N + 13), .null, .null, .null, .int 0, .int 0, .int 0, .null, .int 0, .null, .int 0, .null, .int 0, .int 0, .null, .null, .null, .null, .null, .null, .null])) [iaZ 50, iaZ 3, iaZ 3, zaZ 6, zaZ 4, zaZ 4, iaZ 4, iaZ 8, iaZ 8, iaZ 8, iaZ 6400, iaZ 16, iaZ 16, iaZ 8064, iaZ 336] := nbk.arr hk ha rfl _
  generalize xup M (N + 14) _ = M at hk ⊢
  show xX G l _ _ _ 119 _ _ M (N + 15) (S + 14930)
  refine x_putF (q := 122) (v := .ref (N + 14)) (ty := .array .int) xclX9 18 fwX9_53 (by decide) rfl rfl rfl dX9_init_119 rfl (by decide +kernel) rfl rfl (Nat.le_of_ble_eq_true rfl) hk.1 ?_
  have hk : nbk M0 (xup M a (.inr (12, [.int 0, .ref (N), .int 0, .int 0, .ref (N + 1), .ref (N + 2), .ref (N + 3), .ref (N + 4), .ref (N + 5), .ref (N + 6), .int 0, .ref (N + 7), .ref (N + 8), .ref (N + 9), .ref (N + 10), .ref (N + 11), .ref (N + 12), .ref (N + 13), .ref (N + 14), .null, .null, .int 0, .int 0, .int 0, .null, .int 0, .null, .int 0, .null, .int 0, .int 0, .null, .null, .null, .null, .null, .null, .null]))) a N (.inr (12, [.int 0, .ref (N), .int 0, .int 0, .ref (N + 1), .ref (N + 2), .ref (N + 3), .ref (N + 4), .ref (N + 5), .ref (N + 6), .int 0, .ref (N + 7), .ref (N + 8), .ref (N + 9), .ref (N + 10), .ref (N + 11), .ref (N + 12), .ref (N + 13), .ref (N + 14), .null, .null, .int 0, .int 0, .int 0, .null, .int 0, .null, .int 0, .null, .int 0, .int 0, .null, .null, .null, .null, .null, .null, .null])) [iaZ 50, iaZ 3, iaZ 3, zaZ 6, zaZ 4, zaZ 4, iaZ 4, iaZ 8, iaZ 8, iaZ 8, iaZ 6400, iaZ 16, iaZ 16, iaZ 8064, iaZ 336] := nbk.put hk ha _
  show xX G l _ _ _ 122 _ _ (xup M a (.inr (12, [.int 0, .ref (N), .int 0, .int 0, .ref (N + 1), .ref (N + 2), .ref (N + 3), .ref (N + 4), .ref (N + 5), .ref (N + 6), .int 0, .ref (N + 7), .ref (N + 8), .ref (N + 9), .ref (N + 10), .ref (N + 11), .ref (N + 12), .ref (N + 13), .ref (N + 14), .null, .null, .int 0, .int 0, .int 0, .null, .int 0, .null, .int 0, .null, .int 0, .int 0, .null, .null, .null, .null, .null, .null, .null]))) _ _
  generalize xup M a _ = M at hk ⊢
  refine x_aload_n (q := 123) dX9_init_122 rfl rfl ?_
  refine xn_sipush (q := 126) 336 dX9_init_123 rfl (by decide) ?_
  refine x_newa (q := 128) (at0 := .int) (ty := .int) (n := 336) (a0 := (336, .inl (fun _ => 0))) 0 rfl rfl (fun C h => by cases h) ac_int (fun cA => rfl) (by decide) (by decide) (by decide) dX9_init_126 rfl (by omega) (by omega) (fun _ => ?_)
  have hk : nbk M0 (xup M (N + 15) (iaZ 336)) a N (.inr (12, [.int 0, .ref (N), .int 0, .int 0, .ref (N + 1), .ref (N + 2), .ref (N + 3), .ref (N + 4), .ref (N + 5), .ref (N + 6), .int 0, .ref (N + 7), .ref (N + 8), .ref (N + 9), .ref (N + 10), .ref (N + 11), .ref (N + 12), .ref (N + 13), .ref (N + 14), .null, .null, .int 0, .int 0, .int 0, .null, .int 0, .null, .int 0, .null, .int 0, .int 0, .null, .null, .null, .null, .null, .null, .null])) [iaZ 50, iaZ 3, iaZ 3, zaZ 6, zaZ 4, zaZ 4, iaZ 4, iaZ 8, iaZ 8, iaZ 8, iaZ 6400, iaZ 16, iaZ 16, iaZ 8064, iaZ 336, iaZ 336] := nbk.arr hk ha rfl _
  generalize xup M (N + 15) _ = M at hk ⊢
  show xX G l _ _ _ 128 _ _ M (N + 16) (S + 15266)
  refine x_putF (q := 131) (v := .ref (N + 15)) (ty := .array .int) xclX9 19 fwX9_56 (by decide) rfl rfl rfl dX9_init_128 rfl (by decide +kernel) rfl rfl (Nat.le_of_ble_eq_true rfl) hk.1 ?_
  have hk : nbk M0 (xup M a (.inr (12, [.int 0, .ref (N), .int 0, .int 0, .ref (N + 1), .ref (N + 2), .ref (N + 3), .ref (N + 4), .ref (N + 5), .ref (N + 6), .int 0, .ref (N + 7), .ref (N + 8), .ref (N + 9), .ref (N + 10), .ref (N + 11), .ref (N + 12), .ref (N + 13), .ref (N + 14), .ref (N + 15), .null, .int 0, .int 0, .int 0, .null, .int 0, .null, .int 0, .null, .int 0, .int 0, .null, .null, .null, .null, .null, .null, .null]))) a N (.inr (12, [.int 0, .ref (N), .int 0, .int 0, .ref (N + 1), .ref (N + 2), .ref (N + 3), .ref (N + 4), .ref (N + 5), .ref (N + 6), .int 0, .ref (N + 7), .ref (N + 8), .ref (N + 9), .ref (N + 10), .ref (N + 11), .ref (N + 12), .ref (N + 13), .ref (N + 14), .ref (N + 15), .null, .int 0, .int 0, .int 0, .null, .int 0, .null, .int 0, .null, .int 0, .int 0, .null, .null, .null, .null, .null, .null, .null])) [iaZ 50, iaZ 3, iaZ 3, zaZ 6, zaZ 4, zaZ 4, iaZ 4, iaZ 8, iaZ 8, iaZ 8, iaZ 6400, iaZ 16, iaZ 16, iaZ 8064, iaZ 336, iaZ 336] := nbk.put hk ha _
  show xX G l _ _ _ 131 _ _ (xup M a (.inr (12, [.int 0, .ref (N), .int 0, .int 0, .ref (N + 1), .ref (N + 2), .ref (N + 3), .ref (N + 4), .ref (N + 5), .ref (N + 6), .int 0, .ref (N + 7), .ref (N + 8), .ref (N + 9), .ref (N + 10), .ref (N + 11), .ref (N + 12), .ref (N + 13), .ref (N + 14), .ref (N + 15), .null, .int 0, .int 0, .int 0, .null, .int 0, .null, .int 0, .null, .int 0, .int 0, .null, .null, .null, .null, .null, .null, .null]))) _ _
  generalize xup M a _ = M at hk ⊢
  refine x_aload_n (q := 132) dX9_init_131 rfl rfl ?_
  refine xn_sipush (q := 135) 336 dX9_init_132 rfl (by decide) ?_
  refine x_newa (q := 137) (at0 := .long) (ty := .long) (n := 336) (a0 := (336, .inr (.inl (fun _ => 0)))) 1 rfl rfl (fun C h => by cases h) ac_long (fun cA => rfl) (by decide) (by decide) (by decide) dX9_init_135 rfl (by omega) (by omega) (fun _ => ?_)
  have hk : nbk M0 (xup M (N + 16) (laZ 336)) a N (.inr (12, [.int 0, .ref (N), .int 0, .int 0, .ref (N + 1), .ref (N + 2), .ref (N + 3), .ref (N + 4), .ref (N + 5), .ref (N + 6), .int 0, .ref (N + 7), .ref (N + 8), .ref (N + 9), .ref (N + 10), .ref (N + 11), .ref (N + 12), .ref (N + 13), .ref (N + 14), .ref (N + 15), .null, .int 0, .int 0, .int 0, .null, .int 0, .null, .int 0, .null, .int 0, .int 0, .null, .null, .null, .null, .null, .null, .null])) [iaZ 50, iaZ 3, iaZ 3, zaZ 6, zaZ 4, zaZ 4, iaZ 4, iaZ 8, iaZ 8, iaZ 8, iaZ 6400, iaZ 16, iaZ 16, iaZ 8064, iaZ 336, iaZ 336, laZ 336] := nbk.arr hk ha rfl _
  generalize xup M (N + 16) _ = M at hk ⊢
  show xX G l _ _ _ 137 _ _ M (N + 17) (S + 15602)
  refine x_putF (q := 140) (v := .ref (N + 16)) (ty := .array .long) xclX9 20 fwX9_59 (by decide) rfl rfl rfl dX9_init_137 rfl (by decide +kernel) rfl rfl (Nat.le_of_ble_eq_true rfl) hk.1 ?_
  have hk : nbk M0 (xup M a (.inr (12, [.int 0, .ref (N), .int 0, .int 0, .ref (N + 1), .ref (N + 2), .ref (N + 3), .ref (N + 4), .ref (N + 5), .ref (N + 6), .int 0, .ref (N + 7), .ref (N + 8), .ref (N + 9), .ref (N + 10), .ref (N + 11), .ref (N + 12), .ref (N + 13), .ref (N + 14), .ref (N + 15), .ref (N + 16), .int 0, .int 0, .int 0, .null, .int 0, .null, .int 0, .null, .int 0, .int 0, .null, .null, .null, .null, .null, .null, .null]))) a N (.inr (12, [.int 0, .ref (N), .int 0, .int 0, .ref (N + 1), .ref (N + 2), .ref (N + 3), .ref (N + 4), .ref (N + 5), .ref (N + 6), .int 0, .ref (N + 7), .ref (N + 8), .ref (N + 9), .ref (N + 10), .ref (N + 11), .ref (N + 12), .ref (N + 13), .ref (N + 14), .ref (N + 15), .ref (N + 16), .int 0, .int 0, .int 0, .null, .int 0, .null, .int 0, .null, .int 0, .int 0, .null, .null, .null, .null, .null, .null, .null])) [iaZ 50, iaZ 3, iaZ 3, zaZ 6, zaZ 4, zaZ 4, iaZ 4, iaZ 8, iaZ 8, iaZ 8, iaZ 6400, iaZ 16, iaZ 16, iaZ 8064, iaZ 336, iaZ 336, laZ 336] := nbk.put hk ha _
  show xX G l _ _ _ 140 _ _ (xup M a (.inr (12, [.int 0, .ref (N), .int 0, .int 0, .ref (N + 1), .ref (N + 2), .ref (N + 3), .ref (N + 4), .ref (N + 5), .ref (N + 6), .int 0, .ref (N + 7), .ref (N + 8), .ref (N + 9), .ref (N + 10), .ref (N + 11), .ref (N + 12), .ref (N + 13), .ref (N + 14), .ref (N + 15), .ref (N + 16), .int 0, .int 0, .int 0, .null, .int 0, .null, .int 0, .null, .int 0, .int 0, .null, .null, .null, .null, .null, .null, .null]))) _ _
  generalize xup M a _ = M at hk ⊢
  refine x_aload_n (q := 141) dX9_init_140 rfl rfl ?_
  refine xn_bipush (q := 143) 120 dX9_init_141 rfl (by decide) ?_
  refine x_newa (q := 145) (at0 := .long) (ty := .long) (n := 120) (a0 := (120, .inr (.inl (fun _ => 0)))) 1 rfl rfl (fun C h => by cases h) ac_long (fun cA => rfl) (by decide) (by decide) (by decide) dX9_init_143 rfl (by omega) (by omega) (fun _ => ?_)
  have hk : nbk M0 (xup M (N + 17) (laZ 120)) a N (.inr (12, [.int 0, .ref (N), .int 0, .int 0, .ref (N + 1), .ref (N + 2), .ref (N + 3), .ref (N + 4), .ref (N + 5), .ref (N + 6), .int 0, .ref (N + 7), .ref (N + 8), .ref (N + 9), .ref (N + 10), .ref (N + 11), .ref (N + 12), .ref (N + 13), .ref (N + 14), .ref (N + 15), .ref (N + 16), .int 0, .int 0, .int 0, .null, .int 0, .null, .int 0, .null, .int 0, .int 0, .null, .null, .null, .null, .null, .null, .null])) [iaZ 50, iaZ 3, iaZ 3, zaZ 6, zaZ 4, zaZ 4, iaZ 4, iaZ 8, iaZ 8, iaZ 8, iaZ 6400, iaZ 16, iaZ 16, iaZ 8064, iaZ 336, iaZ 336, laZ 336, laZ 120] := nbk.arr hk ha rfl _
  generalize xup M (N + 17) _ = M at hk ⊢
  show xX G l _ _ _ 145 _ _ M (N + 18) (S + 15722)
  refine x_putF (q := 148) (v := .ref (N + 17)) (ty := .array .long) xclX9 24 fwX9_63 (by decide) rfl rfl rfl dX9_init_145 rfl (by decide +kernel) rfl rfl (Nat.le_of_ble_eq_true rfl) hk.1 ?_
  have hk : nbk M0 (xup M a (.inr (12, [.int 0, .ref (N), .int 0, .int 0, .ref (N + 1), .ref (N + 2), .ref (N + 3), .ref (N + 4), .ref (N + 5), .ref (N + 6), .int 0, .ref (N + 7), .ref (N + 8), .ref (N + 9), .ref (N + 10), .ref (N + 11), .ref (N + 12), .ref (N + 13), .ref (N + 14), .ref (N + 15), .ref (N + 16), .int 0, .int 0, .int 0, .ref (N + 17), .int 0, .null, .int 0, .null, .int 0, .int 0, .null, .null, .null, .null, .null, .null, .null]))) a N (.inr (12, [.int 0, .ref (N), .int 0, .int 0, .ref (N + 1), .ref (N + 2), .ref (N + 3), .ref (N + 4), .ref (N + 5), .ref (N + 6), .int 0, .ref (N + 7), .ref (N + 8), .ref (N + 9), .ref (N + 10), .ref (N + 11), .ref (N + 12), .ref (N + 13), .ref (N + 14), .ref (N + 15), .ref (N + 16), .int 0, .int 0, .int 0, .ref (N + 17), .int 0, .null, .int 0, .null, .int 0, .int 0, .null, .null, .null, .null, .null, .null, .null])) [iaZ 50, iaZ 3, iaZ 3, zaZ 6, zaZ 4, zaZ 4, iaZ 4, iaZ 8, iaZ 8, iaZ 8, iaZ 6400, iaZ 16, iaZ 16, iaZ 8064, iaZ 336, iaZ 336, laZ 336, laZ 120] := nbk.put hk ha _
  show xX G l _ _ _ 148 _ _ (xup M a (.inr (12, [.int 0, .ref (N), .int 0, .int 0, .ref (N + 1), .ref (N + 2), .ref (N + 3), .ref (N + 4), .ref (N + 5), .ref (N + 6), .int 0, .ref (N + 7), .ref (N + 8), .ref (N + 9), .ref (N + 10), .ref (N + 11), .ref (N + 12), .ref (N + 13), .ref (N + 14), .ref (N + 15), .ref (N + 16), .int 0, .int 0, .int 0, .ref (N + 17), .int 0, .null, .int 0, .null, .int 0, .int 0, .null, .null, .null, .null, .null, .null, .null]))) _ _
  generalize xup M a _ = M at hk ⊢
  refine x_aload_n (q := 149) dX9_init_148 rfl rfl ?_
  refine xn_bipush (q := 151) 126 dX9_init_149 rfl (by decide) ?_
  refine x_newa (q := 153) (at0 := .long) (ty := .long) (n := 126) (a0 := (126, .inr (.inl (fun _ => 0)))) 1 rfl rfl (fun C h => by cases h) ac_long (fun cA => rfl) (by decide) (by decide) (by decide) dX9_init_151 rfl (by omega) (by omega) (fun _ => ?_)
  have hk : nbk M0 (xup M (N + 18) (laZ 126)) a N (.inr (12, [.int 0, .ref (N), .int 0, .int 0, .ref (N + 1), .ref (N + 2), .ref (N + 3), .ref (N + 4), .ref (N + 5), .ref (N + 6), .int 0, .ref (N + 7), .ref (N + 8), .ref (N + 9), .ref (N + 10), .ref (N + 11), .ref (N + 12), .ref (N + 13), .ref (N + 14), .ref (N + 15), .ref (N + 16), .int 0, .int 0, .int 0, .ref (N + 17), .int 0, .null, .int 0, .null, .int 0, .int 0, .null, .null, .null, .null, .null, .null, .null])) [iaZ 50, iaZ 3, iaZ 3, zaZ 6, zaZ 4, zaZ 4, iaZ 4, iaZ 8, iaZ 8, iaZ 8, iaZ 6400, iaZ 16, iaZ 16, iaZ 8064, iaZ 336, iaZ 336, laZ 336, laZ 120, laZ 126] := nbk.arr hk ha rfl _
  generalize xup M (N + 18) _ = M at hk ⊢
  show xX G l _ _ _ 153 _ _ M (N + 19) (S + 15848)
  refine x_putF (q := 156) (v := .ref (N + 18)) (ty := .array .long) xclX9 26 fwX9_66 (by decide) rfl rfl rfl dX9_init_153 rfl (by decide +kernel) rfl rfl (Nat.le_of_ble_eq_true rfl) hk.1 ?_
  have hk : nbk M0 (xup M a (.inr (12, [.int 0, .ref (N), .int 0, .int 0, .ref (N + 1), .ref (N + 2), .ref (N + 3), .ref (N + 4), .ref (N + 5), .ref (N + 6), .int 0, .ref (N + 7), .ref (N + 8), .ref (N + 9), .ref (N + 10), .ref (N + 11), .ref (N + 12), .ref (N + 13), .ref (N + 14), .ref (N + 15), .ref (N + 16), .int 0, .int 0, .int 0, .ref (N + 17), .int 0, .ref (N + 18), .int 0, .null, .int 0, .int 0, .null, .null, .null, .null, .null, .null, .null]))) a N (.inr (12, [.int 0, .ref (N), .int 0, .int 0, .ref (N + 1), .ref (N + 2), .ref (N + 3), .ref (N + 4), .ref (N + 5), .ref (N + 6), .int 0, .ref (N + 7), .ref (N + 8), .ref (N + 9), .ref (N + 10), .ref (N + 11), .ref (N + 12), .ref (N + 13), .ref (N + 14), .ref (N + 15), .ref (N + 16), .int 0, .int 0, .int 0, .ref (N + 17), .int 0, .ref (N + 18), .int 0, .null, .int 0, .int 0, .null, .null, .null, .null, .null, .null, .null])) [iaZ 50, iaZ 3, iaZ 3, zaZ 6, zaZ 4, zaZ 4, iaZ 4, iaZ 8, iaZ 8, iaZ 8, iaZ 6400, iaZ 16, iaZ 16, iaZ 8064, iaZ 336, iaZ 336, laZ 336, laZ 120, laZ 126] := nbk.put hk ha _
  show xX G l _ _ _ 156 _ _ (xup M a (.inr (12, [.int 0, .ref (N), .int 0, .int 0, .ref (N + 1), .ref (N + 2), .ref (N + 3), .ref (N + 4), .ref (N + 5), .ref (N + 6), .int 0, .ref (N + 7), .ref (N + 8), .ref (N + 9), .ref (N + 10), .ref (N + 11), .ref (N + 12), .ref (N + 13), .ref (N + 14), .ref (N + 15), .ref (N + 16), .int 0, .int 0, .int 0, .ref (N + 17), .int 0, .ref (N + 18), .int 0, .null, .int 0, .int 0, .null, .null, .null, .null, .null, .null, .null]))) _ _
  generalize xup M a _ = M at hk ⊢
  refine x_aload_n (q := 157) dX9_init_156 rfl rfl ?_
  refine xn_iconst (q := 158) 4 dX9_init_157 rfl (by decide) ?_
  refine x_newa (q := 160) (at0 := .int) (ty := .int) (n := 4) (a0 := (4, .inl (fun _ => 0))) 0 rfl rfl (fun C h => by cases h) ac_int (fun cA => rfl) (by decide) (by decide) (by decide) dX9_init_158 rfl (by omega) (by omega) (fun _ => ?_)
  have hk : nbk M0 (xup M (N + 19) (iaZ 4)) a N (.inr (12, [.int 0, .ref (N), .int 0, .int 0, .ref (N + 1), .ref (N + 2), .ref (N + 3), .ref (N + 4), .ref (N + 5), .ref (N + 6), .int 0, .ref (N + 7), .ref (N + 8), .ref (N + 9), .ref (N + 10), .ref (N + 11), .ref (N + 12), .ref (N + 13), .ref (N + 14), .ref (N + 15), .ref (N + 16), .int 0, .int 0, .int 0, .ref (N + 17), .int 0, .ref (N + 18), .int 0, .null, .int 0, .int 0, .null, .null, .null, .null, .null, .null, .null])) [iaZ 50, iaZ 3, iaZ 3, zaZ 6, zaZ 4, zaZ 4, iaZ 4, iaZ 8, iaZ 8, iaZ 8, iaZ 6400, iaZ 16, iaZ 16, iaZ 8064, iaZ 336, iaZ 336, laZ 336, laZ 120, laZ 126, iaZ 4] := nbk.arr hk ha rfl _
  generalize xup M (N + 19) _ = M at hk ⊢
  show xX G l _ _ _ 160 _ _ M (N + 20) (S + 15852)
  refine x_putF (q := 163) (v := .ref (N + 19)) (ty := .array .int) xclX9 28 fwX9_69 (by decide) rfl rfl rfl dX9_init_160 rfl (by decide +kernel) rfl rfl (Nat.le_of_ble_eq_true rfl) hk.1 ?_
  have hk : nbk M0 (xup M a (.inr (12, [.int 0, .ref (N), .int 0, .int 0, .ref (N + 1), .ref (N + 2), .ref (N + 3), .ref (N + 4), .ref (N + 5), .ref (N + 6), .int 0, .ref (N + 7), .ref (N + 8), .ref (N + 9), .ref (N + 10), .ref (N + 11), .ref (N + 12), .ref (N + 13), .ref (N + 14), .ref (N + 15), .ref (N + 16), .int 0, .int 0, .int 0, .ref (N + 17), .int 0, .ref (N + 18), .int 0, .ref (N + 19), .int 0, .int 0, .null, .null, .null, .null, .null, .null, .null]))) a N (.inr (12, [.int 0, .ref (N), .int 0, .int 0, .ref (N + 1), .ref (N + 2), .ref (N + 3), .ref (N + 4), .ref (N + 5), .ref (N + 6), .int 0, .ref (N + 7), .ref (N + 8), .ref (N + 9), .ref (N + 10), .ref (N + 11), .ref (N + 12), .ref (N + 13), .ref (N + 14), .ref (N + 15), .ref (N + 16), .int 0, .int 0, .int 0, .ref (N + 17), .int 0, .ref (N + 18), .int 0, .ref (N + 19), .int 0, .int 0, .null, .null, .null, .null, .null, .null, .null])) [iaZ 50, iaZ 3, iaZ 3, zaZ 6, zaZ 4, zaZ 4, iaZ 4, iaZ 8, iaZ 8, iaZ 8, iaZ 6400, iaZ 16, iaZ 16, iaZ 8064, iaZ 336, iaZ 336, laZ 336, laZ 120, laZ 126, iaZ 4] := nbk.put hk ha _
  show xX G l _ _ _ 163 _ _ (xup M a (.inr (12, [.int 0, .ref (N), .int 0, .int 0, .ref (N + 1), .ref (N + 2), .ref (N + 3), .ref (N + 4), .ref (N + 5), .ref (N + 6), .int 0, .ref (N + 7), .ref (N + 8), .ref (N + 9), .ref (N + 10), .ref (N + 11), .ref (N + 12), .ref (N + 13), .ref (N + 14), .ref (N + 15), .ref (N + 16), .int 0, .int 0, .int 0, .ref (N + 17), .int 0, .ref (N + 18), .int 0, .ref (N + 19), .int 0, .int 0, .null, .null, .null, .null, .null, .null, .null]))) _ _
  generalize xup M a _ = M at hk ⊢
  refine x_aload_n (q := 164) dX9_init_163 rfl rfl ?_
  refine xn_iconst (q := 165) 4 dX9_init_164 rfl (by decide) ?_
  refine x_newa (q := 167) (at0 := .int) (ty := .int) (n := 4) (a0 := (4, .inl (fun _ => 0))) 0 rfl rfl (fun C h => by cases h) ac_int (fun cA => rfl) (by decide) (by decide) (by decide) dX9_init_165 rfl (by omega) (by omega) (fun _ => ?_)
  have hk : nbk M0 (xup M (N + 20) (iaZ 4)) a N (.inr (12, [.int 0, .ref (N), .int 0, .int 0, .ref (N + 1), .ref (N + 2), .ref (N + 3), .ref (N + 4), .ref (N + 5), .ref (N + 6), .int 0, .ref (N + 7), .ref (N + 8), .ref (N + 9), .ref (N + 10), .ref (N + 11), .ref (N + 12), .ref (N + 13), .ref (N + 14), .ref (N + 15), .ref (N + 16), .int 0, .int 0, .int 0, .ref (N + 17), .int 0, .ref (N + 18), .int 0, .ref (N + 19), .int 0, .int 0, .null, .null, .null, .null, .null, .null, .null])) [iaZ 50, iaZ 3, iaZ 3, zaZ 6, zaZ 4, zaZ 4, iaZ 4, iaZ 8, iaZ 8, iaZ 8, iaZ 6400, iaZ 16, iaZ 16, iaZ 8064, iaZ 336, iaZ 336, laZ 336, laZ 120, laZ 126, iaZ 4, iaZ 4] := nbk.arr hk ha rfl _
  generalize xup M (N + 20) _ = M at hk ⊢
  show xX G l _ _ _ 167 _ _ M (N + 21) (S + 15856)
  refine x_putF (q := 170) (v := .ref (N + 20)) (ty := .array .int) xclX9 31 fwX9_72 (by decide) rfl rfl rfl dX9_init_167 rfl (by decide +kernel) rfl rfl (Nat.le_of_ble_eq_true rfl) hk.1 ?_
  have hk : nbk M0 (xup M a (.inr (12, [.int 0, .ref (N), .int 0, .int 0, .ref (N + 1), .ref (N + 2), .ref (N + 3), .ref (N + 4), .ref (N + 5), .ref (N + 6), .int 0, .ref (N + 7), .ref (N + 8), .ref (N + 9), .ref (N + 10), .ref (N + 11), .ref (N + 12), .ref (N + 13), .ref (N + 14), .ref (N + 15), .ref (N + 16), .int 0, .int 0, .int 0, .ref (N + 17), .int 0, .ref (N + 18), .int 0, .ref (N + 19), .int 0, .int 0, .ref (N + 20), .null, .null, .null, .null, .null, .null]))) a N (.inr (12, [.int 0, .ref (N), .int 0, .int 0, .ref (N + 1), .ref (N + 2), .ref (N + 3), .ref (N + 4), .ref (N + 5), .ref (N + 6), .int 0, .ref (N + 7), .ref (N + 8), .ref (N + 9), .ref (N + 10), .ref (N + 11), .ref (N + 12), .ref (N + 13), .ref (N + 14), .ref (N + 15), .ref (N + 16), .int 0, .int 0, .int 0, .ref (N + 17), .int 0, .ref (N + 18), .int 0, .ref (N + 19), .int 0, .int 0, .ref (N + 20), .null, .null, .null, .null, .null, .null])) [iaZ 50, iaZ 3, iaZ 3, zaZ 6, zaZ 4, zaZ 4, iaZ 4, iaZ 8, iaZ 8, iaZ 8, iaZ 6400, iaZ 16, iaZ 16, iaZ 8064, iaZ 336, iaZ 336, laZ 336, laZ 120, laZ 126, iaZ 4, iaZ 4] := nbk.put hk ha _
  show xX G l _ _ _ 170 _ _ (xup M a (.inr (12, [.int 0, .ref (N), .int 0, .int 0, .ref (N + 1), .ref (N + 2), .ref (N + 3), .ref (N + 4), .ref (N + 5), .ref (N + 6), .int 0, .ref (N + 7), .ref (N + 8), .ref (N + 9), .ref (N + 10), .ref (N + 11), .ref (N + 12), .ref (N + 13), .ref (N + 14), .ref (N + 15), .ref (N + 16), .int 0, .int 0, .int 0, .ref (N + 17), .int 0, .ref (N + 18), .int 0, .ref (N + 19), .int 0, .int 0, .ref (N + 20), .null, .null, .null, .null, .null, .null]))) _ _
  generalize xup M a _ = M at hk ⊢
  refine x_aload_n (q := 171) dX9_init_170 rfl rfl ?_
  refine xn_iconst (q := 172) 3 dX9_init_171 rfl (by decide) ?_
  refine x_newa (q := 174) (at0 := .int) (ty := .int) (n := 3) (a0 := (3, .inl (fun _ => 0))) 0 rfl rfl (fun C h => by cases h) ac_int (fun cA => rfl) (by decide) (by decide) (by decide) dX9_init_172 rfl (by omega) (by omega) (fun _ => ?_)
  have hk : nbk M0 (xup M (N + 21) (iaZ 3)) a N (.inr (12, [.int 0, .ref (N), .int 0, .int 0, .ref (N + 1), .ref (N + 2), .ref (N + 3), .ref (N + 4), .ref (N + 5), .ref (N + 6), .int 0, .ref (N + 7), .ref (N + 8), .ref (N + 9), .ref (N + 10), .ref (N + 11), .ref (N + 12), .ref (N + 13), .ref (N + 14), .ref (N + 15), .ref (N + 16), .int 0, .int 0, .int 0, .ref (N + 17), .int 0, .ref (N + 18), .int 0, .ref (N + 19), .int 0, .int 0, .ref (N + 20), .null, .null, .null, .null, .null, .null])) [iaZ 50, iaZ 3, iaZ 3, zaZ 6, zaZ 4, zaZ 4, iaZ 4, iaZ 8, iaZ 8, iaZ 8, iaZ 6400, iaZ 16, iaZ 16, iaZ 8064, iaZ 336, iaZ 336, laZ 336, laZ 120, laZ 126, iaZ 4, iaZ 4, iaZ 3] := nbk.arr hk ha rfl _
  generalize xup M (N + 21) _ = M at hk ⊢
  show xX G l _ _ _ 174 _ _ M (N + 22) (S + 15859)
  refine x_putF (q := 177) (v := .ref (N + 21)) (ty := .array .int) xclX9 32 fwX9_75 (by decide) rfl rfl rfl dX9_init_174 rfl (by decide +kernel) rfl rfl (Nat.le_of_ble_eq_true rfl) hk.1 ?_
  have hk : nbk M0 (xup M a (.inr (12, [.int 0, .ref (N), .int 0, .int 0, .ref (N + 1), .ref (N + 2), .ref (N + 3), .ref (N + 4), .ref (N + 5), .ref (N + 6), .int 0, .ref (N + 7), .ref (N + 8), .ref (N + 9), .ref (N + 10), .ref (N + 11), .ref (N + 12), .ref (N + 13), .ref (N + 14), .ref (N + 15), .ref (N + 16), .int 0, .int 0, .int 0, .ref (N + 17), .int 0, .ref (N + 18), .int 0, .ref (N + 19), .int 0, .int 0, .ref (N + 20), .ref (N + 21), .null, .null, .null, .null, .null]))) a N (.inr (12, [.int 0, .ref (N), .int 0, .int 0, .ref (N + 1), .ref (N + 2), .ref (N + 3), .ref (N + 4), .ref (N + 5), .ref (N + 6), .int 0, .ref (N + 7), .ref (N + 8), .ref (N + 9), .ref (N + 10), .ref (N + 11), .ref (N + 12), .ref (N + 13), .ref (N + 14), .ref (N + 15), .ref (N + 16), .int 0, .int 0, .int 0, .ref (N + 17), .int 0, .ref (N + 18), .int 0, .ref (N + 19), .int 0, .int 0, .ref (N + 20), .ref (N + 21), .null, .null, .null, .null, .null])) [iaZ 50, iaZ 3, iaZ 3, zaZ 6, zaZ 4, zaZ 4, iaZ 4, iaZ 8, iaZ 8, iaZ 8, iaZ 6400, iaZ 16, iaZ 16, iaZ 8064, iaZ 336, iaZ 336, laZ 336, laZ 120, laZ 126, iaZ 4, iaZ 4, iaZ 3] := nbk.put hk ha _
  show xX G l _ _ _ 177 _ _ (xup M a (.inr (12, [.int 0, .ref (N), .int 0, .int 0, .ref (N + 1), .ref (N + 2), .ref (N + 3), .ref (N + 4), .ref (N + 5), .ref (N + 6), .int 0, .ref (N + 7), .ref (N + 8), .ref (N + 9), .ref (N + 10), .ref (N + 11), .ref (N + 12), .ref (N + 13), .ref (N + 14), .ref (N + 15), .ref (N + 16), .int 0, .int 0, .int 0, .ref (N + 17), .int 0, .ref (N + 18), .int 0, .ref (N + 19), .int 0, .int 0, .ref (N + 20), .ref (N + 21), .null, .null, .null, .null, .null]))) _ _
  generalize xup M a _ = M at hk ⊢
  refine x_aload_n (q := 178) dX9_init_177 rfl rfl ?_
  refine xn_iconst (q := 179) 3 dX9_init_178 rfl (by decide) ?_
  refine x_newa (q := 181) (at0 := .int) (ty := .int) (n := 3) (a0 := (3, .inl (fun _ => 0))) 0 rfl rfl (fun C h => by cases h) ac_int (fun cA => rfl) (by decide) (by decide) (by decide) dX9_init_179 rfl (by omega) (by omega) (fun _ => ?_)
  have hk : nbk M0 (xup M (N + 22) (iaZ 3)) a N (.inr (12, [.int 0, .ref (N), .int 0, .int 0, .ref (N + 1), .ref (N + 2), .ref (N + 3), .ref (N + 4), .ref (N + 5), .ref (N + 6), .int 0, .ref (N + 7), .ref (N + 8), .ref (N + 9), .ref (N + 10), .ref (N + 11), .ref (N + 12), .ref (N + 13), .ref (N + 14), .ref (N + 15), .ref (N + 16), .int 0, .int 0, .int 0, .ref (N + 17), .int 0, .ref (N + 18), .int 0, .ref (N + 19), .int 0, .int 0, .ref (N + 20), .ref (N + 21), .null, .null, .null, .null, .null])) [iaZ 50, iaZ 3, iaZ 3, zaZ 6, zaZ 4, zaZ 4, iaZ 4, iaZ 8, iaZ 8, iaZ 8, iaZ 6400, iaZ 16, iaZ 16, iaZ 8064, iaZ 336, iaZ 336, laZ 336, laZ 120, laZ 126, iaZ 4, iaZ 4, iaZ 3, iaZ 3] := nbk.arr hk ha rfl _
  generalize xup M (N + 22) _ = M at hk ⊢
  show xX G l _ _ _ 181 _ _ M (N + 23) (S + 15862)
  refine x_putF (q := 184) (v := .ref (N + 22)) (ty := .array .int) xclX9 33 fwX9_78 (by decide) rfl rfl rfl dX9_init_181 rfl (by decide +kernel) rfl rfl (Nat.le_of_ble_eq_true rfl) hk.1 ?_
  have hk : nbk M0 (xup M a (.inr (12, [.int 0, .ref (N), .int 0, .int 0, .ref (N + 1), .ref (N + 2), .ref (N + 3), .ref (N + 4), .ref (N + 5), .ref (N + 6), .int 0, .ref (N + 7), .ref (N + 8), .ref (N + 9), .ref (N + 10), .ref (N + 11), .ref (N + 12), .ref (N + 13), .ref (N + 14), .ref (N + 15), .ref (N + 16), .int 0, .int 0, .int 0, .ref (N + 17), .int 0, .ref (N + 18), .int 0, .ref (N + 19), .int 0, .int 0, .ref (N + 20), .ref (N + 21), .ref (N + 22), .null, .null, .null, .null]))) a N (.inr (12, [.int 0, .ref (N), .int 0, .int 0, .ref (N + 1), .ref (N + 2), .ref (N + 3), .ref (N + 4), .ref (N + 5), .ref (N + 6), .int 0, .ref (N + 7), .ref (N + 8), .ref (N + 9), .ref (N + 10), .ref (N + 11), .ref (N + 12), .ref (N + 13), .ref (N + 14), .ref (N + 15), .ref (N + 16), .int 0, .int 0, .int 0, .ref (N + 17), .int 0, .ref (N + 18), .int 0, .ref (N + 19), .int 0, .int 0, .ref (N + 20), .ref (N + 21), .ref (N + 22), .null, .null, .null, .null])) [iaZ 50, iaZ 3, iaZ 3, zaZ 6, zaZ 4, zaZ 4, iaZ 4, iaZ 8, iaZ 8, iaZ 8, iaZ 6400, iaZ 16, iaZ 16, iaZ 8064, iaZ 336, iaZ 336, laZ 336, laZ 120, laZ 126, iaZ 4, iaZ 4, iaZ 3, iaZ 3] := nbk.put hk ha _
  show xX G l _ _ _ 184 _ _ (xup M a (.inr (12, [.int 0, .ref (N), .int 0, .int 0, .ref (N + 1), .ref (N + 2), .ref (N + 3), .ref (N + 4), .ref (N + 5), .ref (N + 6), .int 0, .ref (N + 7), .ref (N + 8), .ref (N + 9), .ref (N + 10), .ref (N + 11), .ref (N + 12), .ref (N + 13), .ref (N + 14), .ref (N + 15), .ref (N + 16), .int 0, .int 0, .int 0, .ref (N + 17), .int 0, .ref (N + 18), .int 0, .ref (N + 19), .int 0, .int 0, .ref (N + 20), .ref (N + 21), .ref (N + 22), .null, .null, .null, .null]))) _ _
  generalize xup M a _ = M at hk ⊢
  refine x_aload_n (q := 185) dX9_init_184 rfl rfl ?_
  refine xn_bipush (q := 187) 6 dX9_init_185 rfl (by decide) ?_
  refine x_newa (q := 189) (at0 := .boolean) (ty := .boolean) (n := 6) (a0 := (6, .inl (fun _ => 0))) 2 rfl rfl (fun C h => by cases h) ac_boolean (fun cA => rfl) (by decide) (by decide) (by decide) dX9_init_187 rfl (by omega) (by omega) (fun _ => ?_)
  have hk : nbk M0 (xup M (N + 23) (zaZ 6)) a N (.inr (12, [.int 0, .ref (N), .int 0, .int 0, .ref (N + 1), .ref (N + 2), .ref (N + 3), .ref (N + 4), .ref (N + 5), .ref (N + 6), .int 0, .ref (N + 7), .ref (N + 8), .ref (N + 9), .ref (N + 10), .ref (N + 11), .ref (N + 12), .ref (N + 13), .ref (N + 14), .ref (N + 15), .ref (N + 16), .int 0, .int 0, .int 0, .ref (N + 17), .int 0, .ref (N + 18), .int 0, .ref (N + 19), .int 0, .int 0, .ref (N + 20), .ref (N + 21), .ref (N + 22), .null, .null, .null, .null])) [iaZ 50, iaZ 3, iaZ 3, zaZ 6, zaZ 4, zaZ 4, iaZ 4, iaZ 8, iaZ 8, iaZ 8, iaZ 6400, iaZ 16, iaZ 16, iaZ 8064, iaZ 336, iaZ 336, laZ 336, laZ 120, laZ 126, iaZ 4, iaZ 4, iaZ 3, iaZ 3, zaZ 6] := nbk.arr hk ha rfl _
  generalize xup M (N + 23) _ = M at hk ⊢
  show xX G l _ _ _ 189 _ _ M (N + 24) (S + 15868)
  refine x_putF (q := 192) (v := .ref (N + 23)) (ty := .array .boolean) xclX9 34 fwX9_81 (by decide) rfl rfl rfl dX9_init_189 rfl (by decide +kernel) rfl rfl (Nat.le_of_ble_eq_true rfl) hk.1 ?_
  have hk : nbk M0 (xup M a (.inr (12, [.int 0, .ref (N), .int 0, .int 0, .ref (N + 1), .ref (N + 2), .ref (N + 3), .ref (N + 4), .ref (N + 5), .ref (N + 6), .int 0, .ref (N + 7), .ref (N + 8), .ref (N + 9), .ref (N + 10), .ref (N + 11), .ref (N + 12), .ref (N + 13), .ref (N + 14), .ref (N + 15), .ref (N + 16), .int 0, .int 0, .int 0, .ref (N + 17), .int 0, .ref (N + 18), .int 0, .ref (N + 19), .int 0, .int 0, .ref (N + 20), .ref (N + 21), .ref (N + 22), .ref (N + 23), .null, .null, .null]))) a N (.inr (12, [.int 0, .ref (N), .int 0, .int 0, .ref (N + 1), .ref (N + 2), .ref (N + 3), .ref (N + 4), .ref (N + 5), .ref (N + 6), .int 0, .ref (N + 7), .ref (N + 8), .ref (N + 9), .ref (N + 10), .ref (N + 11), .ref (N + 12), .ref (N + 13), .ref (N + 14), .ref (N + 15), .ref (N + 16), .int 0, .int 0, .int 0, .ref (N + 17), .int 0, .ref (N + 18), .int 0, .ref (N + 19), .int 0, .int 0, .ref (N + 20), .ref (N + 21), .ref (N + 22), .ref (N + 23), .null, .null, .null])) [iaZ 50, iaZ 3, iaZ 3, zaZ 6, zaZ 4, zaZ 4, iaZ 4, iaZ 8, iaZ 8, iaZ 8, iaZ 6400, iaZ 16, iaZ 16, iaZ 8064, iaZ 336, iaZ 336, laZ 336, laZ 120, laZ 126, iaZ 4, iaZ 4, iaZ 3, iaZ 3, zaZ 6] := nbk.put hk ha _
  show xX G l _ _ _ 192 _ _ (xup M a (.inr (12, [.int 0, .ref (N), .int 0, .int 0, .ref (N + 1), .ref (N + 2), .ref (N + 3), .ref (N + 4), .ref (N + 5), .ref (N + 6), .int 0, .ref (N + 7), .ref (N + 8), .ref (N + 9), .ref (N + 10), .ref (N + 11), .ref (N + 12), .ref (N + 13), .ref (N + 14), .ref (N + 15), .ref (N + 16), .int 0, .int 0, .int 0, .ref (N + 17), .int 0, .ref (N + 18), .int 0, .ref (N + 19), .int 0, .int 0, .ref (N + 20), .ref (N + 21), .ref (N + 22), .ref (N + 23), .null, .null, .null]))) _ _
  generalize xup M a _ = M at hk ⊢
  refine x_aload_n (q := 193) dX9_init_192 rfl rfl ?_
  refine xn_sipush (q := 196) 360 dX9_init_193 rfl (by decide) ?_
  refine x_newa (q := 198) (at0 := .int) (ty := .int) (n := 360) (a0 := (360, .inl (fun _ => 0))) 0 rfl rfl (fun C h => by cases h) ac_int (fun cA => rfl) (by decide) (by decide) (by decide) dX9_init_196 rfl (by omega) (by omega) (fun _ => ?_)
  have hk : nbk M0 (xup M (N + 24) (iaZ 360)) a N (.inr (12, [.int 0, .ref (N), .int 0, .int 0, .ref (N + 1), .ref (N + 2), .ref (N + 3), .ref (N + 4), .ref (N + 5), .ref (N + 6), .int 0, .ref (N + 7), .ref (N + 8), .ref (N + 9), .ref (N + 10), .ref (N + 11), .ref (N + 12), .ref (N + 13), .ref (N + 14), .ref (N + 15), .ref (N + 16), .int 0, .int 0, .int 0, .ref (N + 17), .int 0, .ref (N + 18), .int 0, .ref (N + 19), .int 0, .int 0, .ref (N + 20), .ref (N + 21), .ref (N + 22), .ref (N + 23), .null, .null, .null])) [iaZ 50, iaZ 3, iaZ 3, zaZ 6, zaZ 4, zaZ 4, iaZ 4, iaZ 8, iaZ 8, iaZ 8, iaZ 6400, iaZ 16, iaZ 16, iaZ 8064, iaZ 336, iaZ 336, laZ 336, laZ 120, laZ 126, iaZ 4, iaZ 4, iaZ 3, iaZ 3, zaZ 6, iaZ 360] := nbk.arr hk ha rfl _
  generalize xup M (N + 24) _ = M at hk ⊢
  show xX G l _ _ _ 198 _ _ M (N + 25) (S + 16228)
  refine x_putF (q := 201) (v := .ref (N + 24)) (ty := .array .int) xclX9 35 fwX9_84 (by decide) rfl rfl rfl dX9_init_198 rfl (by decide +kernel) rfl rfl (Nat.le_of_ble_eq_true rfl) hk.1 ?_
  have hk : nbk M0 (xup M a (.inr (12, [.int 0, .ref (N), .int 0, .int 0, .ref (N + 1), .ref (N + 2), .ref (N + 3), .ref (N + 4), .ref (N + 5), .ref (N + 6), .int 0, .ref (N + 7), .ref (N + 8), .ref (N + 9), .ref (N + 10), .ref (N + 11), .ref (N + 12), .ref (N + 13), .ref (N + 14), .ref (N + 15), .ref (N + 16), .int 0, .int 0, .int 0, .ref (N + 17), .int 0, .ref (N + 18), .int 0, .ref (N + 19), .int 0, .int 0, .ref (N + 20), .ref (N + 21), .ref (N + 22), .ref (N + 23), .ref (N + 24), .null, .null]))) a N (.inr (12, [.int 0, .ref (N), .int 0, .int 0, .ref (N + 1), .ref (N + 2), .ref (N + 3), .ref (N + 4), .ref (N + 5), .ref (N + 6), .int 0, .ref (N + 7), .ref (N + 8), .ref (N + 9), .ref (N + 10), .ref (N + 11), .ref (N + 12), .ref (N + 13), .ref (N + 14), .ref (N + 15), .ref (N + 16), .int 0, .int 0, .int 0, .ref (N + 17), .int 0, .ref (N + 18), .int 0, .ref (N + 19), .int 0, .int 0, .ref (N + 20), .ref (N + 21), .ref (N + 22), .ref (N + 23), .ref (N + 24), .null, .null])) [iaZ 50, iaZ 3, iaZ 3, zaZ 6, zaZ 4, zaZ 4, iaZ 4, iaZ 8, iaZ 8, iaZ 8, iaZ 6400, iaZ 16, iaZ 16, iaZ 8064, iaZ 336, iaZ 336, laZ 336, laZ 120, laZ 126, iaZ 4, iaZ 4, iaZ 3, iaZ 3, zaZ 6, iaZ 360] := nbk.put hk ha _
  show xX G l _ _ _ 201 _ _ (xup M a (.inr (12, [.int 0, .ref (N), .int 0, .int 0, .ref (N + 1), .ref (N + 2), .ref (N + 3), .ref (N + 4), .ref (N + 5), .ref (N + 6), .int 0, .ref (N + 7), .ref (N + 8), .ref (N + 9), .ref (N + 10), .ref (N + 11), .ref (N + 12), .ref (N + 13), .ref (N + 14), .ref (N + 15), .ref (N + 16), .int 0, .int 0, .int 0, .ref (N + 17), .int 0, .ref (N + 18), .int 0, .ref (N + 19), .int 0, .int 0, .ref (N + 20), .ref (N + 21), .ref (N + 22), .ref (N + 23), .ref (N + 24), .null, .null]))) _ _
  generalize xup M a _ = M at hk ⊢
  refine x_aload_n (q := 202) dX9_init_201 rfl rfl ?_
  refine xn_bipush (q := 204) 15 dX9_init_202 rfl (by decide) ?_
  refine x_newa (q := 206) (at0 := .int) (ty := .int) (n := 15) (a0 := (15, .inl (fun _ => 0))) 0 rfl rfl (fun C h => by cases h) ac_int (fun cA => rfl) (by decide) (by decide) (by decide) dX9_init_204 rfl (by omega) (by omega) (fun _ => ?_)
  have hk : nbk M0 (xup M (N + 25) (iaZ 15)) a N (.inr (12, [.int 0, .ref (N), .int 0, .int 0, .ref (N + 1), .ref (N + 2), .ref (N + 3), .ref (N + 4), .ref (N + 5), .ref (N + 6), .int 0, .ref (N + 7), .ref (N + 8), .ref (N + 9), .ref (N + 10), .ref (N + 11), .ref (N + 12), .ref (N + 13), .ref (N + 14), .ref (N + 15), .ref (N + 16), .int 0, .int 0, .int 0, .ref (N + 17), .int 0, .ref (N + 18), .int 0, .ref (N + 19), .int 0, .int 0, .ref (N + 20), .ref (N + 21), .ref (N + 22), .ref (N + 23), .ref (N + 24), .null, .null])) [iaZ 50, iaZ 3, iaZ 3, zaZ 6, zaZ 4, zaZ 4, iaZ 4, iaZ 8, iaZ 8, iaZ 8, iaZ 6400, iaZ 16, iaZ 16, iaZ 8064, iaZ 336, iaZ 336, laZ 336, laZ 120, laZ 126, iaZ 4, iaZ 4, iaZ 3, iaZ 3, zaZ 6, iaZ 360, iaZ 15] := nbk.arr hk ha rfl _
  generalize xup M (N + 25) _ = M at hk ⊢
  show xX G l _ _ _ 206 _ _ M (N + 26) (S + 16243)
  refine x_putF (q := 209) (v := .ref (N + 25)) (ty := .array .int) xclX9 36 fwX9_87 (by decide) rfl rfl rfl dX9_init_206 rfl (by decide +kernel) rfl rfl (Nat.le_of_ble_eq_true rfl) hk.1 ?_
  have hk : nbk M0 (xup M a (.inr (12, [.int 0, .ref (N), .int 0, .int 0, .ref (N + 1), .ref (N + 2), .ref (N + 3), .ref (N + 4), .ref (N + 5), .ref (N + 6), .int 0, .ref (N + 7), .ref (N + 8), .ref (N + 9), .ref (N + 10), .ref (N + 11), .ref (N + 12), .ref (N + 13), .ref (N + 14), .ref (N + 15), .ref (N + 16), .int 0, .int 0, .int 0, .ref (N + 17), .int 0, .ref (N + 18), .int 0, .ref (N + 19), .int 0, .int 0, .ref (N + 20), .ref (N + 21), .ref (N + 22), .ref (N + 23), .ref (N + 24), .ref (N + 25), .null]))) a N (.inr (12, [.int 0, .ref (N), .int 0, .int 0, .ref (N + 1), .ref (N + 2), .ref (N + 3), .ref (N + 4), .ref (N + 5), .ref (N + 6), .int 0, .ref (N + 7), .ref (N + 8), .ref (N + 9), .ref (N + 10), .ref (N + 11), .ref (N + 12), .ref (N + 13), .ref (N + 14), .ref (N + 15), .ref (N + 16), .int 0, .int 0, .int 0, .ref (N + 17), .int 0, .ref (N + 18), .int 0, .ref (N + 19), .int 0, .int 0, .ref (N + 20), .ref (N + 21), .ref (N + 22), .ref (N + 23), .ref (N + 24), .ref (N + 25), .null])) [iaZ 50, iaZ 3, iaZ 3, zaZ 6, zaZ 4, zaZ 4, iaZ 4, iaZ 8, iaZ 8, iaZ 8, iaZ 6400, iaZ 16, iaZ 16, iaZ 8064, iaZ 336, iaZ 336, laZ 336, laZ 120, laZ 126, iaZ 4, iaZ 4, iaZ 3, iaZ 3, zaZ 6, iaZ 360, iaZ 15] := nbk.put hk ha _
  show xX G l _ _ _ 209 _ _ (xup M a (.inr (12, [.int 0, .ref (N), .int 0, .int 0, .ref (N + 1), .ref (N + 2), .ref (N + 3), .ref (N + 4), .ref (N + 5), .ref (N + 6), .int 0, .ref (N + 7), .ref (N + 8), .ref (N + 9), .ref (N + 10), .ref (N + 11), .ref (N + 12), .ref (N + 13), .ref (N + 14), .ref (N + 15), .ref (N + 16), .int 0, .int 0, .int 0, .ref (N + 17), .int 0, .ref (N + 18), .int 0, .ref (N + 19), .int 0, .int 0, .ref (N + 20), .ref (N + 21), .ref (N + 22), .ref (N + 23), .ref (N + 24), .ref (N + 25), .null]))) _ _
  generalize xup M a _ = M at hk ⊢
  refine x_aload_n (q := 210) dX9_init_209 rfl rfl ?_
  refine xn_bipush (q := 212) 15 dX9_init_210 rfl (by decide) ?_
  refine x_newa (q := 214) (at0 := .int) (ty := .int) (n := 15) (a0 := (15, .inl (fun _ => 0))) 0 rfl rfl (fun C h => by cases h) ac_int (fun cA => rfl) (by decide) (by decide) (by decide) dX9_init_212 rfl (by omega) (by omega) (fun _ => ?_)
  have hk : nbk M0 (xup M (N + 26) (iaZ 15)) a N (.inr (12, [.int 0, .ref (N), .int 0, .int 0, .ref (N + 1), .ref (N + 2), .ref (N + 3), .ref (N + 4), .ref (N + 5), .ref (N + 6), .int 0, .ref (N + 7), .ref (N + 8), .ref (N + 9), .ref (N + 10), .ref (N + 11), .ref (N + 12), .ref (N + 13), .ref (N + 14), .ref (N + 15), .ref (N + 16), .int 0, .int 0, .int 0, .ref (N + 17), .int 0, .ref (N + 18), .int 0, .ref (N + 19), .int 0, .int 0, .ref (N + 20), .ref (N + 21), .ref (N + 22), .ref (N + 23), .ref (N + 24), .ref (N + 25), .null])) [iaZ 50, iaZ 3, iaZ 3, zaZ 6, zaZ 4, zaZ 4, iaZ 4, iaZ 8, iaZ 8, iaZ 8, iaZ 6400, iaZ 16, iaZ 16, iaZ 8064, iaZ 336, iaZ 336, laZ 336, laZ 120, laZ 126, iaZ 4, iaZ 4, iaZ 3, iaZ 3, zaZ 6, iaZ 360, iaZ 15, iaZ 15] := nbk.arr hk ha rfl _
  generalize xup M (N + 26) _ = M at hk ⊢
  show xX G l _ _ _ 214 _ _ M (N + 27) (S + 16258)
  refine x_putF (q := 217) (v := .ref (N + 26)) (ty := .array .int) xclX9 37 fwX9_90 (by decide) rfl rfl rfl dX9_init_214 rfl (by decide +kernel) rfl rfl (Nat.le_of_ble_eq_true rfl) hk.1 ?_
  have hk : nbk M0 (xup M a (.inr (12, [.int 0, .ref (N), .int 0, .int 0, .ref (N + 1), .ref (N + 2), .ref (N + 3), .ref (N + 4), .ref (N + 5), .ref (N + 6), .int 0, .ref (N + 7), .ref (N + 8), .ref (N + 9), .ref (N + 10), .ref (N + 11), .ref (N + 12), .ref (N + 13), .ref (N + 14), .ref (N + 15), .ref (N + 16), .int 0, .int 0, .int 0, .ref (N + 17), .int 0, .ref (N + 18), .int 0, .ref (N + 19), .int 0, .int 0, .ref (N + 20), .ref (N + 21), .ref (N + 22), .ref (N + 23), .ref (N + 24), .ref (N + 25), .ref (N + 26)]))) a N (.inr (12, [.int 0, .ref (N), .int 0, .int 0, .ref (N + 1), .ref (N + 2), .ref (N + 3), .ref (N + 4), .ref (N + 5), .ref (N + 6), .int 0, .ref (N + 7), .ref (N + 8), .ref (N + 9), .ref (N + 10), .ref (N + 11), .ref (N + 12), .ref (N + 13), .ref (N + 14), .ref (N + 15), .ref (N + 16), .int 0, .int 0, .int 0, .ref (N + 17), .int 0, .ref (N + 18), .int 0, .ref (N + 19), .int 0, .int 0, .ref (N + 20), .ref (N + 21), .ref (N + 22), .ref (N + 23), .ref (N + 24), .ref (N + 25), .ref (N + 26)])) [iaZ 50, iaZ 3, iaZ 3, zaZ 6, zaZ 4, zaZ 4, iaZ 4, iaZ 8, iaZ 8, iaZ 8, iaZ 6400, iaZ 16, iaZ 16, iaZ 8064, iaZ 336, iaZ 336, laZ 336, laZ 120, laZ 126, iaZ 4, iaZ 4, iaZ 3, iaZ 3, zaZ 6, iaZ 360, iaZ 15, iaZ 15] := nbk.put hk ha _
  show xX G l _ _ _ 217 _ _ (xup M a (.inr (12, [.int 0, .ref (N), .int 0, .int 0, .ref (N + 1), .ref (N + 2), .ref (N + 3), .ref (N + 4), .ref (N + 5), .ref (N + 6), .int 0, .ref (N + 7), .ref (N + 8), .ref (N + 9), .ref (N + 10), .ref (N + 11), .ref (N + 12), .ref (N + 13), .ref (N + 14), .ref (N + 15), .ref (N + 16), .int 0, .int 0, .int 0, .ref (N + 17), .int 0, .ref (N + 18), .int 0, .ref (N + 19), .int 0, .int 0, .ref (N + 20), .ref (N + 21), .ref (N + 22), .ref (N + 23), .ref (N + 24), .ref (N + 25), .ref (N + 26)]))) _ _
  generalize xup M a _ = M at hk ⊢
  refine x_aload_n (q := 218) dX9_init_217 rfl rfl ?_
  refine xn_iconst (q := 219) 1 dX9_init_218 rfl (by decide) ?_
  refine x_put (q := 222) (v := .int (nI 1)) (ty := .int) xclX9 3 fwX9_93 (by decide) rfl dX9_init_219 rfl (by decide +kernel) rfl rfl (Nat.le_of_ble_eq_true rfl) hk.1 ?_
  have hk : nbk M0 (xup M a (.inr (12, [.int 0, .ref (N), .int 0, .int (nI 1), .ref (N + 1), .ref (N + 2), .ref (N + 3), .ref (N + 4), .ref (N + 5), .ref (N + 6), .int 0, .ref (N + 7), .ref (N + 8), .ref (N + 9), .ref (N + 10), .ref (N + 11), .ref (N + 12), .ref (N + 13), .ref (N + 14), .ref (N + 15), .ref (N + 16), .int 0, .int 0, .int 0, .ref (N + 17), .int 0, .ref (N + 18), .int 0, .ref (N + 19), .int 0, .int 0, .ref (N + 20), .ref (N + 21), .ref (N + 22), .ref (N + 23), .ref (N + 24), .ref (N + 25), .ref (N + 26)]))) a N (.inr (12, [.int 0, .ref (N), .int 0, .int (nI 1), .ref (N + 1), .ref (N + 2), .ref (N + 3), .ref (N + 4), .ref (N + 5), .ref (N + 6), .int 0, .ref (N + 7), .ref (N + 8), .ref (N + 9), .ref (N + 10), .ref (N + 11), .ref (N + 12), .ref (N + 13), .ref (N + 14), .ref (N + 15), .ref (N + 16), .int 0, .int 0, .int 0, .ref (N + 17), .int 0, .ref (N + 18), .int 0, .ref (N + 19), .int 0, .int 0, .ref (N + 20), .ref (N + 21), .ref (N + 22), .ref (N + 23), .ref (N + 24), .ref (N + 25), .ref (N + 26)])) [iaZ 50, iaZ 3, iaZ 3, zaZ 6, zaZ 4, zaZ 4, iaZ 4, iaZ 8, iaZ 8, iaZ 8, iaZ 6400, iaZ 16, iaZ 16, iaZ 8064, iaZ 336, iaZ 336, laZ 336, laZ 120, laZ 126, iaZ 4, iaZ 4, iaZ 3, iaZ 3, zaZ 6, iaZ 360, iaZ 15, iaZ 15] := nbk.put hk ha _
  show xX G l _ _ _ 222 _ _ (xup M a (.inr (12, [.int 0, .ref (N), .int 0, .int (nI 1), .ref (N + 1), .ref (N + 2), .ref (N + 3), .ref (N + 4), .ref (N + 5), .ref (N + 6), .int 0, .ref (N + 7), .ref (N + 8), .ref (N + 9), .ref (N + 10), .ref (N + 11), .ref (N + 12), .ref (N + 13), .ref (N + 14), .ref (N + 15), .ref (N + 16), .int 0, .int 0, .int 0, .ref (N + 17), .int 0, .ref (N + 18), .int 0, .ref (N + 19), .int 0, .int 0, .ref (N + 20), .ref (N + 21), .ref (N + 22), .ref (N + 23), .ref (N + 24), .ref (N + 25), .ref (N + 26)]))) _ _
  generalize xup M a _ = M at hk ⊢
  refine x_aload_n (q := 223) dX9_init_222 rfl rfl ?_
  refine x_get (q := 226) xclX9 4 fwX9_13 (by decide) dX9_init_223 rfl hk.1 rfl ?_
  refine xn_iconst (q := 227) 0 dX9_init_226 rfl (by decide) ?_
  refine xn_iconst (q := 228) 1 dX9_init_227 rfl (by decide) ?_
  refine x_iast (q := 229) dX9_init_228 rfl (nbk.at hk 1 rfl) (vp_in_nI (by decide) (by decide)) ?_
  have hk : nbk M0 (xup M (N + 1) (.inl (.int, 3, .inl oneI))) a N (.inr (12, [.int 0, .ref (N), .int 0, .int (nI 1), .ref (N + 1), .ref (N + 2), .ref (N + 3), .ref (N + 4), .ref (N + 5), .ref (N + 6), .int 0, .ref (N + 7), .ref (N + 8), .ref (N + 9), .ref (N + 10), .ref (N + 11), .ref (N + 12), .ref (N + 13), .ref (N + 14), .ref (N + 15), .ref (N + 16), .int 0, .int 0, .int 0, .ref (N + 17), .int 0, .ref (N + 18), .int 0, .ref (N + 19), .int 0, .int 0, .ref (N + 20), .ref (N + 21), .ref (N + 22), .ref (N + 23), .ref (N + 24), .ref (N + 25), .ref (N + 26)])) [iaZ 50, .inl (.int, 3, .inl oneI), iaZ 3, zaZ 6, zaZ 4, zaZ 4, iaZ 4, iaZ 8, iaZ 8, iaZ 8, iaZ 6400, iaZ 16, iaZ 16, iaZ 8064, iaZ 336, iaZ 336, laZ 336, laZ 120, laZ 126, iaZ 4, iaZ 4, iaZ 3, iaZ 3, zaZ 6, iaZ 360, iaZ 15, iaZ 15] := nbk.set hk ha 1 (Nat.le_of_ble_eq_true rfl) _
  show xX G l _ _ _ 229 _ _ (xup M (N + 1) (.inl (.int, 3, .inl oneI))) _ _
  generalize xup M (N + 1) _ = M at hk ⊢
  refine x_aload_n (q := 230) dX9_init_229 rfl rfl ?_
  refine x_get (q := 233) xclX9 5 fwX9_16 (by decide) dX9_init_230 rfl hk.1 rfl ?_
  refine xn_iconst (q := 234) 0 dX9_init_233 rfl (by decide) ?_
  refine xn_iconst (q := 235) 1 dX9_init_234 rfl (by decide) ?_
  refine x_iast (q := 236) dX9_init_235 rfl (nbk.at hk 2 rfl) (vp_in_nI (by decide) (by decide)) ?_
  have hk : nbk M0 (xup M (N + 2) (.inl (.int, 3, .inl oneI))) a N (.inr (12, [.int 0, .ref (N), .int 0, .int (nI 1), .ref (N + 1), .ref (N + 2), .ref (N + 3), .ref (N + 4), .ref (N + 5), .ref (N + 6), .int 0, .ref (N + 7), .ref (N + 8), .ref (N + 9), .ref (N + 10), .ref (N + 11), .ref (N + 12), .ref (N + 13), .ref (N + 14), .ref (N + 15), .ref (N + 16), .int 0, .int 0, .int 0, .ref (N + 17), .int 0, .ref (N + 18), .int 0, .ref (N + 19), .int 0, .int 0, .ref (N + 20), .ref (N + 21), .ref (N + 22), .ref (N + 23), .ref (N + 24), .ref (N + 25), .ref (N + 26)])) [iaZ 50, .inl (.int, 3, .inl oneI), .inl (.int, 3, .inl oneI), zaZ 6, zaZ 4, zaZ 4, iaZ 4, iaZ 8, iaZ 8, iaZ 8, iaZ 6400, iaZ 16, iaZ 16, iaZ 8064, iaZ 336, iaZ 336, laZ 336, laZ 120, laZ 126, iaZ 4, iaZ 4, iaZ 3, iaZ 3, zaZ 6, iaZ 360, iaZ 15, iaZ 15] := nbk.set hk ha 2 (Nat.le_of_ble_eq_true rfl) _
  show xX G l _ _ _ 236 _ _ (xup M (N + 2) (.inl (.int, 3, .inl oneI))) _ _
  generalize xup M (N + 2) _ = M at hk ⊢
  refine x_aload_n (q := 237) dX9_init_236 rfl rfl ?_
  refine x_get (q := 240) xclX9 7 fwX9_23 (by decide) dX9_init_237 rfl hk.1 rfl ?_
  refine xn_iconst (q := 241) 0 dX9_init_240 rfl (by decide) ?_
  refine xn_iconst (q := 242) 1 dX9_init_241 rfl (by decide) ?_
  refine x_zast (q := 243) dX9_init_242 rfl (nbk.at hk 4 rfl) (vp_in_nI (by decide) (by decide)) ?_
  have hk : nbk M0 (xup M (N + 4) (.inl (.boolean, 4, .inl oneF))) a N (.inr (12, [.int 0, .ref (N), .int 0, .int (nI 1), .ref (N + 1), .ref (N + 2), .ref (N + 3), .ref (N + 4), .ref (N + 5), .ref (N + 6), .int 0, .ref (N + 7), .ref (N + 8), .ref (N + 9), .ref (N + 10), .ref (N + 11), .ref (N + 12), .ref (N + 13), .ref (N + 14), .ref (N + 15), .ref (N + 16), .int 0, .int 0, .int 0, .ref (N + 17), .int 0, .ref (N + 18), .int 0, .ref (N + 19), .int 0, .int 0, .ref (N + 20), .ref (N + 21), .ref (N + 22), .ref (N + 23), .ref (N + 24), .ref (N + 25), .ref (N + 26)])) [iaZ 50, .inl (.int, 3, .inl oneI), .inl (.int, 3, .inl oneI), zaZ 6, .inl (.boolean, 4, .inl oneF), zaZ 4, iaZ 4, iaZ 8, iaZ 8, iaZ 8, iaZ 6400, iaZ 16, iaZ 16, iaZ 8064, iaZ 336, iaZ 336, laZ 336, laZ 120, laZ 126, iaZ 4, iaZ 4, iaZ 3, iaZ 3, zaZ 6, iaZ 360, iaZ 15, iaZ 15] := nbk.set hk ha 4 (Nat.le_of_ble_eq_true rfl) _
  show xX G l _ _ _ 243 _ _ (xup M (N + 4) (.inl (.boolean, 4, .inl oneF))) _ _
  generalize xup M (N + 4) _ = M at hk ⊢
  refine x_aload_n (q := 244) dX9_init_243 rfl rfl ?_
  refine x_get (q := 247) xclX9 8 fwX9_26 (by decide) dX9_init_244 rfl hk.1 rfl ?_
  refine xn_iconst (q := 248) 0 dX9_init_247 rfl (by decide) ?_
  refine xn_iconst (q := 249) 1 dX9_init_248 rfl (by decide) ?_
  refine x_zast (q := 250) dX9_init_249 rfl (nbk.at hk 5 rfl) (vp_in_nI (by decide) (by decide)) ?_
  have hk : nbk M0 (xup M (N + 5) (.inl (.boolean, 4, .inl oneF))) a N (.inr (12, [.int 0, .ref (N), .int 0, .int (nI 1), .ref (N + 1), .ref (N + 2), .ref (N + 3), .ref (N + 4), .ref (N + 5), .ref (N + 6), .int 0, .ref (N + 7), .ref (N + 8), .ref (N + 9), .ref (N + 10), .ref (N + 11), .ref (N + 12), .ref (N + 13), .ref (N + 14), .ref (N + 15), .ref (N + 16), .int 0, .int 0, .int 0, .ref (N + 17), .int 0, .ref (N + 18), .int 0, .ref (N + 19), .int 0, .int 0, .ref (N + 20), .ref (N + 21), .ref (N + 22), .ref (N + 23), .ref (N + 24), .ref (N + 25), .ref (N + 26)])) [iaZ 50, .inl (.int, 3, .inl oneI), .inl (.int, 3, .inl oneI), zaZ 6, .inl (.boolean, 4, .inl oneF), .inl (.boolean, 4, .inl oneF), iaZ 4, iaZ 8, iaZ 8, iaZ 8, iaZ 6400, iaZ 16, iaZ 16, iaZ 8064, iaZ 336, iaZ 336, laZ 336, laZ 120, laZ 126, iaZ 4, iaZ 4, iaZ 3, iaZ 3, zaZ 6, iaZ 360, iaZ 15, iaZ 15] := nbk.set hk ha 5 (Nat.le_of_ble_eq_true rfl) _
  show xX G l _ _ _ 250 _ _ (xup M (N + 5) (.inl (.boolean, 4, .inl oneF))) _ _
  generalize xup M (N + 5) _ = M at hk ⊢
  exact x_vret rfl dX9_init_250 ⟨rfl, rfl, rfl, hk⟩
end XI1
