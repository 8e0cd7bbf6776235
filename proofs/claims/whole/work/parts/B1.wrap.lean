section XU1
/-- what is settled has no part in the frame -/
theorem scP_se (c : mCf) (n : Nat) (v : Int) : ∀ k, scP (cSe c n v) k = scP c k
  | 0 => rfl
  | k + 1 => by
    show scP (cSe c n v) k / Nat.gcd (scP (cSe c n v) k) (c.L k) * c.L k = _
    rw [scP_se c n v k]; rfl
theorem esP_se (c : mCf) (n : Nat) (v : Int) (e : Nat) : esP (cSe c n v) e = esP c e := rfl
theorem frS_se (c : mCf) (n : Nat) (v : Int) : ∀ k, frS (cSe c n v) k = frS c k
  | 0 => rfl
  | k + 1 => by
    show mu (frS (cSe c n v) k) (esP c k) (c.Hg k || !c.Tu ((k + 1) / 2)) = _
    rw [frS_se c n v k]; rfl
theorem frP_se (c : mCf) (n : Nat) (v : Int) : frP (cSe c n v) = frP c := frS_se c n v _
theorem rtP_se (c : mCf) (n : Nat) (v : Int) (k : Nat) : rtP (cSe c n v) k = rtP c k := by
  show scP (cSe c n v) c.m / c.L k = _
  rw [scP_se]; rfl
theorem pwP_se (c : mCf) (n : Nat) (v : Int) (k i j : Nat) : pwP (cSe c n v) k i j = pwP c k i j := by
  unfold pwP; rw [rtP_se]
theorem puS_se (c : mCf) (n : Nat) (v : Int) : ∀ k, puS (cSe c n v) k = puS c k
  | 0 => rfl
  | k + 1 => by
    show addT (puS (cSe c n v) k) (coP c (k / 16) (k % 16 / 4) * 10 + coP c (k / 16) (k % 4)) (facZ (k % 16) * (c.E (k / 16) : Int) * (pwP (cSe c n v) (k / 16) (k % 16 / 4) (k % 4) : Int)) = _
    rw [puS_se c n v k, pwP_se]; rfl
theorem puP_se (c : mCf) (n : Nat) (v : Int) : puP (cSe c n v) = puP c := puS_se c n v _
theorem swP_se (c : mCf) (n : Nat) (v : Int) : ∀ k, swP (cSe c n v) k = swP c k
  | 0 => by
    show fr0 (cSe c n v) = fr0 c
    unfold fr0; rw [puP_se]
  | k + 1 => by
    show swC (frP (cSe c n v)) k (swP (cSe c n v) k) = swC (frP c) k (swP c k)
    rw [frP_se, swP_se c n v k]
theorem slC_se (c : mCf) (n : Nat) (v : Int) : slC (cSe c n v) = slC c := by
  show slP (cSe c n v) (frP (cSe c n v)) (swP (cSe c n v) 10).2.2 (swP (cSe c n v) 10).1 = slP c (frP c) (swP c 10).2.2 (swP c 10).1
  rw [frP_se, swP_se]; rfl
theorem Fk.se {σ : cZ} {c : mCf} (h : Fk σ c) (n : Nat) (v : Int) : Fk σ (cSe c n v) := by
  unfold Fk at *
  rw [frP_se, puP_se, swP_se, slC_se, scP_se]
  exact h
theorem Fi.of_kp {ks : List Nat} {σ σ' : cZ} {c : mCf} (h : Fi σ c) (k : kp ks σ σ') (hn : ∀ j ∈ ks, j ≠ 4 ∧ j ≠ 28 ∧ j ≠ 29 ∧ j ≠ 31 ∧ j ≠ 32 ∧ ¬ (100 ≤ j ∧ j < 156) ∧ ¬ (200 ≤ j ∧ j < 256)) : Fi σ' c := by
  have h4 : σ' 4 = σ 4 := k 4 (fun z => (hn 4 z).1 rfl)
  rcases h with h | ⟨h1, h2⟩
  · exact .inl (by rw [h4]; exact h)
  · exact .inr ⟨by rw [h4]; exact h1, h2.of_kp k hn⟩
theorem Kv.app {c : mCf} {rs : List (Nat × Nat × Nat)} {key u v : Int} (h : Kv c rs key u v) (x : List (Nat × Nat × Nat)) : Kv c (rs ++ x) key u v := by
  have hr : ∀ n, n < rs.length → rowAt (rs ++ x) n = rowAt rs n := fun n hn => by unfold rowAt; rw [List.getD_eq_getElem?_getD, List.getD_eq_getElem?_getD, List.getElem?_append_left hn]
  rcases h with ⟨n, k, p, h1, h2, h3, h4, h5, h6⟩ | ⟨n, τ, h1, h2, h3, h4, h5⟩ | h
  · exact .inl ⟨n, k, p, by rw [List.length_append]; omega, h2, h3, h4, by rw [hr n h1]; exact h5, by rw [hr n h1]; exact h6⟩
  · exact .inr (.inl ⟨n, τ, by rw [List.length_append]; omega, h2, h3, by rw [hr n h1]; exact h4, by rw [hr n h1]; exact h5⟩)
  · exact .inr (.inr h)
theorem okRow_m {c c' : mCf} (h : c'.m = c.m) {q : Nat × Nat × Nat} (hq : okRow c q) : okRow c' q := by
  unfold okRow at *; rw [h]; exact hq
theorem Rc.m {σ : cZ} {c c' : mCf} {rs : List (Nat × Nat × Nat)} (h : c'.m = c.m) (hr : Rc σ c rs) : Rc σ c' rs :=
  ⟨hr.1, hr.2.1, fun i hi => ⟨(hr.2.2 i hi).1, (hr.2.2 i hi).2.1, (hr.2.2 i hi).2.2.1, okRow_m h (hr.2.2 i hi).2.2.2⟩⟩
/-- the class holds this state -/
def CZ (σ : cZ) (z : mT) : Prop := Ci σ z.1 z.2.1 z.2.2
/-- the class has changed its beams: what was found is forgotten -/
theorem Ci.fgt {ks : List Nat} {σ σ' : cZ} {c c' : mCf} {t : List Nat} {rs : List (Nat × Nat × Nat)} (h : Ci σ c t rs) (hm : c'.m = c.m) (k : kp ks σ σ') (hn : ∀ j ∈ ks, j = 0 ∨ j = 4 ∨ (14 ≤ j ∧ j < 20)) (hb : Bm σ' 1 c') (hf : Fgt σ σ') : Ci σ' c' t rs := by
  obtain ⟨h1, h2, h3, h4, h5, h6, ⟨v, h7, h8⟩, h9⟩ := h
  have n : ∀ j, ¬ (j = 0 ∨ j = 4 ∨ (14 ≤ j ∧ j < 20)) → j ∉ ks := fun j hj hk => hj (hn j hk)
  refine ⟨hb, h2.of_kp k (n 3 (by omega)) (n 26 (by omega)), Rc.m hm ⟨h3.1, by rw [hf.2.1]; exact h3.2.1, fun i hi => ?_⟩, .inl hf.1, h5.of_kp k (n 9 (by omega)), h6.of_kp k (n 10 (by omega)), ⟨v, k.bg (n 163 (by omega)) (n 263 (by omega)) h7, h8⟩, Tl.none hf.2.2⟩
  rw [k 11 (n 11 (by omega)), k 12 (n 12 (by omega)), k 13 (n 13 (by omega))]
  exact h3.2.2 i hi
theorem w_unit (G : xG) (l : Launch) (ad : Nat → Nat) (F : xM) (R : Nat × Nat) (d : Nat) (σ : cZ) (z : mT) (h : CZ σ z) (u : Int) (hu1 : -2147483648 ≤ u) (hu2 : u < 2147483648) : cC G l ad F R YX8_unit (d + 1) [.ref (ad 0), .int (iI u)] σ (fun r σ' => r = some (.int (bI (spUnit z.2.1 u).1)) ∧ CZ σ' (z.1, (spUnit z.2.1 u).2, z.2.2)) := by
  obtain ⟨h1, h2, h3, h4, h5, h6, ⟨v, h7, h8⟩, h9⟩ := h
  refine (b_unit G l ad F R d σ z.2.1 h2 u hu1 hu2).mono (fun r σ' hp => ⟨hp.1, ?_⟩)
  obtain ⟨-, k, ht⟩ := hp
  exact ⟨h1.kp k (by decide), ht, h3.of_kp k (by decide), h4.of_kp k (by decide), h5.of_kp k (by decide), h6.of_kp k (by decide), ⟨v, k.bg (by decide) (by decide) h7, h8⟩, h9.of_kp k (by decide)⟩
theorem w_row (G : xG) (l : Launch) (ad : Nat → Nat) (F : xM) (R : Nat × Nat) (d : Nat) (σ : cZ) (z : mT) (h : CZ σ z) (w m p : Int) (hw1 : -2147483648 ≤ w) (hw2 : w < 2147483648) (hm1 : -2147483648 ≤ m) (hm2 : m < 2147483648) (hp1 : -2147483648 ≤ p) (hp2 : p < 2147483648) : cC G l ad F R YX8_row (d + 3) [.ref (ad 0), .int (iI w), .int (iI m), .int (iI p)] σ (fun r σ' => r = some (.int (iI (spRow z w m p).1)) ∧ CZ σ' (spRow z w m p).2) := by
  obtain ⟨h1, h2, h3, h4, h5, h6, ⟨v, h7, h8⟩, h9⟩ := h
  refine (b_row G l ad F R d σ z.1 h1 z.2.1 z.2.2 h3 w m p hw1 hw2 hm1 hm2 hp1 hp2).mono (fun r σ' hp => ⟨hp.1, ?_⟩)
  obtain ⟨-, k, hr, h0⟩ := hp
  have e1 : (spRow z w m p).2.1 = z.1 := by unfold spRow; split <;> rfl
  have e2 : (spRow z w m p).2.2.1 = z.2.1 := by unfold spRow; split <;> rfl
  have e3 : ∃ x, (spRow z w m p).2.2.2 = z.2.2 ++ x := by
    unfold spRow
    split
    · exact ⟨[], (List.append_nil _).symm⟩
    · exact ⟨_, rfl⟩
  have hr : Rc σ' z.1 (spRow z w m p).2.2.2 := hr
  show Ci σ' (spRow z w m p).2.1 (spRow z w m p).2.2.1 (spRow z w m p).2.2.2
  rw [e1, e2]
  refine ⟨h1.kp k (by decide), h2.of_kp k (by decide) (by decide), hr, h4.of_kp k (by decide), h5.of_kp k (by decide), h6.of_kp k (by decide), ⟨v, k.bg (by decide) (by decide) h7, h8⟩, ?_⟩
  obtain ⟨key, g1, g2, g3, g4⟩ := h9
  refine ⟨key, by rw [h0]; exact g1, g2, g3, ?_⟩
  rcases g4 with g | ⟨u, v', g5, g6, g7⟩
  · exact .inl g
  · obtain ⟨x, e3⟩ := e3
    rw [e3]
    exact .inr ⟨u, v', g5.app x, k.bg (by decide) (by decide) g6, k.bg (by decide) (by decide) g7⟩
theorem w_count (G : xG) (l : Launch) (ad : Nat → Nat) (F : xM) (R : Nat × Nat) (d : Nat) (σ : cZ) (z : mT) (h : CZ σ z) (hok : okL z.1) (w : Int) (hw1 : -2147483648 ≤ w) (hw2 : w < 2147483648) : cC G l ad F R YX8_count (d + 1) [.ref (ad 0), .int (iI w)] σ (fun r σ' => r = some (.int (iI (spCount z w))) ∧ CZ σ' z) :=
  (b_count G l ad F R d σ z.1 h.1 hok z.2.1 z.2.2 h.2.2.1 w hw1 hw2).mono (fun r σ' hp => ⟨hp.1, by rw [hp.2]; exact h⟩)
theorem w_solve (G : xG) (l : Launch) (ad : Nat → Nat) (F : xM) (R : Nat × Nat) (d : Nat) (σ : cZ) (z : mT) (h : CZ σ z) (hok : okL z.1) (h1 : 1 ≤ z.1.m) : cC G l ad F R YX8_solve (d + 7) [.ref (ad 0)] σ (fun r σ' => r = some (.int (nI (spSolve z.1))) ∧ CZ σ' z) := by
  refine (b_solve G l ad F R d σ z.1 h.1 hok (frOk_all hok) h.2.2.2.1).mono (fun r σ' hp => ?_)
  obtain ⟨rfl, k, g1, g2⟩ := hp
  obtain ⟨a, b⟩ := Ci.prep h k g1 g2
  exact ⟨by rw [(solve_eq hok h1).1], a.ci b⟩
theorem w_loose (G : xG) (l : Launch) (ad : Nat → Nat) (F : xM) (R : Nat × Nat) (d : Nat) (σ : cZ) (z : mT) (h : CZ σ z) (hok : okL z.1) (h1 : 1 ≤ z.1.m) (q : Int) (hk1 : -2147483648 ≤ q) (hk2 : q < 2147483648) : cC G l ad F R YX8_loose (d + 7) [.ref (ad 0), .int (iI q)] σ (fun r σ' => r = some (.int (iI (spLoose z.1 q))) ∧ CZ σ' z) := by
  refine (b_loose G l ad F R d σ z.1 h.1 hok (frOk_all hok) h.2.2.2.1 q hk1 hk2).mono (fun r σ' hp => ?_)
  obtain ⟨rfl, k, g1, g2⟩ := hp
  obtain ⟨a, b⟩ := Ci.prep h k g1 g2
  exact ⟨by rw [loose_eq hok h1], a.ci b⟩
theorem w_read (G : xG) (l : Launch) (ad : Nat → Nat) (F : xM) (R : Nat × Nat) (d : Nat) (σ : cZ) (z : mT) (h : CZ σ z) : cC G l ad F R YX8_read (d + 4) [.ref (ad 0)] σ (fun r σ' => r = some (.int (iI (spRead z).1)) ∧ CZ σ' (spRead z).2) := by
  obtain ⟨h1, h2, h3, h4, h5, h6, ⟨v, h7, h8⟩, h9⟩ := h
  refine (b_read G l ad F R d σ z.1 h1 z.2.1 h2 z.2.2).mono (fun r σ' hp => ⟨hp.1, ?_⟩)
  obtain ⟨-, k, ht, hb⟩ := hp
  unfold spRead
  by_cases e : rdBad z.2.1 = true
  · rw [if_pos e] at hb ⊢
    obtain ⟨b1, b2, b3⟩ := hb
    have hF : Fi σ' z.1 := by
      rcases h4 with g | ⟨g1, g2⟩
      · exact .inl (by rw [b2]; exact g)
      · refine .inr ⟨by rw [b2]; exact g1, ?_⟩
        have k4 : kp [0, 1, 2, 3, 14, 15, 16, 17, 18, 19, 20, 21, 22, 23, 24, 25] σ σ' := fun j hj => by
          by_cases e4 : j = 4
          · rw [e4]; exact b2
          · exact k j (by simp at hj ⊢; omega)
        exact g2.of_kp k4 (by decide)
    have hRc : Rc σ' z.1 z.2.2 := ⟨h3.1, by rw [b1]; exact h3.2.1, fun i hi => by rw [k 11 (by decide), k 12 (by decide), k 13 (by decide)]; exact h3.2.2 i hi⟩
    have hT : Tl σ' z.1 z.2.2 := by
      obtain ⟨key, g1, g2, g3, g4⟩ := h9
      refine ⟨key, by rw [b1]; exact g1, g2, g3, ?_⟩
      rcases g4 with g | ⟨u, v', g5, g6, g7⟩
      · exact .inl g
      · exact .inr ⟨u, v', g5, k.bg (by decide) (by decide) g6, k.bg (by decide) (by decide) g7⟩
    exact ⟨b3, ht, hRc, hF, h5.of_kp k (by decide), h6.of_kp k (by decide), ⟨v, k.bg (by decide) (by decide) h7, h8⟩, hT⟩
  · rw [if_neg e] at hb ⊢
    obtain ⟨b1, b2, b3, b4⟩ := hb
    exact ⟨b1, ht, ⟨by show (0 : Nat) ≤ 8; omega, b3, fun i hi => absurd (show i < 0 from hi) (by omega)⟩, .inl b2, h5.of_kp k (by decide), h6.of_kp k (by decide), ⟨v, k.bg (by decide) (by decide) h7, h8⟩, Tl.none b4⟩
/-- what is settled, only where a node is held -/
def seI (c : mCf) : Prop := ∀ i, i < 4 → c.Hi i = false → c.Se i = 0
theorem w_settled (G : xG) (l : Launch) (ad : Nat → Nat) (F : xM) (R : Nat × Nat) (d : Nat) (σ : cZ) (z : mT) (h : CZ σ z) (n v : Int) (hn1 : -2147483648 ≤ n) (hn2 : n < 2147483648) (hv1 : -9223372036854775808 ≤ v) (hv2 : v < 9223372036854775808) : cC G l ad F R YX8_settled (d + 2) [.ref (ad 0), .int (iI n), .long (iL v)] σ (fun r σ' => r = some (.int (bI (spSettled z n v).1)) ∧ CZ σ' (spSettled z n v).2) := by
  have h' := h
  obtain ⟨h1, h2, h3, h4, h5, h6, ⟨v', h7, h8⟩, h9⟩ := h
  refine (b_settled G l ad F R d σ z.1 h1 n hn1 hn2 v hv1 hv2).mono (fun r σ' hp => ?_)
  unfold spSettled
  by_cases e : hdB z.1 n = true ∧ -1000 ≤ v ∧ v ≤ 1000
  · rw [if_pos e] at hp
    obtain ⟨rfl, k, hb, g1, g2⟩ := hp
    have e' := e.1
    unfold hdB ndB at e'
    rw [Bool.and_eq_true, decide_eq_true_iff] at e'
    rw [if_neg (fun q => by
      rcases q with q | q | q | q | q
      · omega
      · omega
      · rw [e'.2] at q; exact absurd q (by decide)
      · omega
      · omega)]
    refine ⟨rfl, hb, h2.of_kp k (by decide) (by decide), Rc.m (c := z.1) rfl ⟨h3.1, by rw [g1]; exact h3.2.1, fun i hi => ?_⟩, ?_, h5.of_kp k (by decide), h6.of_kp k (by decide), ⟨v', k.bg (by decide) (by decide) h7, h8⟩, Tl.none g2⟩
    · rw [k 11 (by decide), k 12 (by decide), k 13 (by decide)]; exact h3.2.2 i hi
    · have hF := h4.of_kp k (by decide)
      rcases hF with g | ⟨q1, q2⟩
      · exact .inl g
      · exact .inr ⟨q1, q2.se _ _⟩
  · rw [if_neg e] at hp
    obtain ⟨rfl, rfl⟩ := hp
    have hno : n < 0 ∨ (z.1.m : Int) < n ∨ z.1.Hi n.toNat = false ∨ v < -1000 ∨ 1000 < v := Classical.byContradiction (fun hn => e ⟨by
      unfold hdB ndB
      rw [Bool.and_eq_true, decide_eq_true_iff]
      refine ⟨by omega, ?_⟩
      cases hH : z.1.Hi n.toNat
      · exact absurd (Or.inr (Or.inr (Or.inl hH))) hn
      · rfl, by omega, by omega⟩)
    rw [if_pos hno]
    exact ⟨rfl, h'⟩
theorem w_member (G : xG) (l : Launch) (ad : Nat → Nat) (F : xM) (R : Nat × Nat) (d : Nat) (σ : cZ) (z : mT) (h : CZ σ z) (k L E : Int) (hk : ¬ (k < 0 ∨ (z.1.m : Int) ≤ k)) (hL1 : -9223372036854775808 ≤ L) (hL2 : L < 9223372036854775808) (hE1 : -9223372036854775808 ≤ E) (hE2 : E < 9223372036854775808) : cC G l ad F R YX8_member (d + 2) [.ref (ad 0), .int (iI k), .long (iL L), .long (iL E)] σ (fun r σ' => r = some (.int (bI (spMember z k L E).2.1)) ∧ CZ σ' (spMember z k L E).2.2) := by
  have hm := h.1.1
  have ek : iI k = nI k.toNat := by rw [nI_i]; congr 1; omega
  rw [ek]
  refine (b_member G l ad F R d σ z.1 h.1 k.toNat (by omega) L E hL1 hL2 hE1 hE2).mono (fun r σ' hp => ?_)
  unfold spMember
  rw [if_neg hk]
  by_cases e : 1 ≤ L ∧ L ≤ 12 ∧ 1 ≤ E ∧ E ≤ 12
  · rw [if_pos e] at hp
    obtain ⟨rfl, kk, hb, hf⟩ := hp
    rw [if_neg (by omega)]
    exact ⟨rfl, Ci.fgt (c := z.1) h rfl kk (by decide) hb hf⟩
  · rw [if_neg e] at hp
    obtain ⟨rfl, rfl⟩ := hp
    rw [if_pos (by omega)]
    exact ⟨rfl, h⟩
theorem w_hinge (G : xG) (l : Launch) (ad : Nat → Nat) (F : xM) (R : Nat × Nat) (d : Nat) (σ : cZ) (z : mT) (h : CZ σ z) (k a : Int) (b : Bool) (hk : ¬ (k < 0 ∨ (z.1.m : Int) ≤ k)) (ha1 : -2147483648 ≤ a) (ha2 : a < 2147483648) : cC G l ad F R YX8_hinge (d + 2) [.ref (ad 0), .int (iI k), .int (iI a), .int (bI b)] σ (fun r σ' => r = some (.int (bI (spHinge z k a b).2.1)) ∧ CZ σ' (spHinge z k a b).2.2) := by
  have hm := h.1.1
  have ek : iI k = nI k.toNat := by rw [nI_i]; congr 1; omega
  rw [ek]
  refine (b_hinge G l ad F R d σ z.1 h.1 k.toNat (by omega) a ha1 ha2 b).mono (fun r σ' hp => ?_)
  unfold spHinge
  rw [if_neg hk]
  by_cases e : a = 0 ∨ a = 1
  · rw [if_pos e] at hp
    obtain ⟨rfl, kk, hb, hf⟩ := hp
    rw [if_neg (by omega)]
    exact ⟨rfl, Ci.fgt (c := z.1) h rfl kk (by decide) hb hf⟩
  · rw [if_neg e] at hp
    obtain ⟨rfl, rfl⟩ := hp
    rw [if_pos (by omega)]
    exact ⟨rfl, h⟩
theorem w_support (G : xG) (l : Launch) (ad : Nat → Nat) (F : xM) (R : Nat × Nat) (d : Nat) (σ : cZ) (z : mT) (h : CZ σ z) (hse : seI z.1) (k a : Int) (b : Bool) (hk : ¬ (k < 0 ∨ (z.1.m : Int) < k)) (ha1 : -2147483648 ≤ a) (ha2 : a < 2147483648) : cC G l ad F R YX8_support (d + 2) [.ref (ad 0), .int (iI k), .int (iI a), .int (bI b)] σ (fun r σ' => r = some (.int (bI (spSupport z k a b).2.1)) ∧ CZ σ' (spSupport z k a b).2.2) := by
  have hm := h.1.1
  have ek : iI k = nI k.toNat := by rw [nI_i]; congr 1; omega
  rw [ek]
  refine (b_support G l ad F R d σ z.1 h.1 hse k.toNat (by omega) a ha1 ha2 b).mono (fun r σ' hp => ?_)
  unfold spSupport
  rw [if_neg hk]
  by_cases e0 : a = 0
  · rw [if_pos e0] at hp
    obtain ⟨rfl, kk, hb, hf⟩ := hp
    rw [if_neg (by omega), if_pos e0]
    exact ⟨rfl, Ci.fgt (c := z.1) h rfl kk (by decide) hb hf⟩
  · rw [if_neg e0] at hp
    by_cases e1 : a = 1
    · rw [if_pos e1] at hp
      obtain ⟨rfl, kk, hb, hf⟩ := hp
      rw [if_neg (by omega), if_neg e0]
      exact ⟨rfl, Ci.fgt (c := z.1) h rfl kk (by decide) hb hf⟩
    · rw [if_neg e1] at hp
      obtain ⟨rfl, rfl⟩ := hp
      rw [if_pos (by omega)]
      exact ⟨rfl, h⟩
/-- the rows of the reference are such rows -/
theorem Rc.rok {σ : cZ} {c : mCf} {rs : List (Nat × Nat × Nat)} (h : Rc σ c rs) : rOk c rs := fun i hi => (h.2.2 i hi).2.2.2
theorem w_at (G : xG) (l : Launch) (ad : Nat → Nat) (F : xM) (R : Nat × Nat) (d : Nat) (σ : cZ) (z : mT) (h : CZ σ z) (hok : okL z.1) (h1 : 1 ≤ z.1.m) (n k p q : Int) (hn1 : -2147483648 ≤ n) (hn2 : n < 2147483648) (hk1 : -2147483648 ≤ k) (hk2 : k < 2147483648) (hp1 : -2147483648 ≤ p) (hp2 : p < 2147483648) (hq1 : -2147483648 ≤ q) (hq2 : q < 2147483648) : cC G l ad F R YX8_at (d + 7) [.ref (ad 0), .int (iI n), .int (iI k), .int (iI p), .int (iI q)] σ (fun r σ' => r = some (.long (spAt z n k p q)) ∧ CZ σ' z) :=
  (b_at G l ad F R d σ z.1 z.2.1 z.2.2 hok (frOk_all hok) h n k p q hn1 hn2 hk1 hk2 hp1 hp2 hq1 hq2).mono (fun r σ' hp => ⟨by rw [hp.1, at_eq hok h1 z.2.1 h.2.2.1.rok], hp.2⟩)
theorem w_area (G : xG) (l : Launch) (ad : Nat → Nat) (F : xM) (R : Nat × Nat) (d : Nat) (σ : cZ) (z : mT) (h : CZ σ z) (hok : okL z.1) (h1 : 1 ≤ z.1.m) (n a q : Int) (hn1 : -2147483648 ≤ n) (hn2 : n < 2147483648) (ha1 : -2147483648 ≤ a) (ha2 : a < 2147483648) (hq1 : -2147483648 ≤ q) (hq2 : q < 2147483648) : cC G l ad F R YX8_area (d + 7) [.ref (ad 0), .int (iI n), .int (iI a), .int (iI q)] σ (fun r σ' => r = some (.long (spArea z n a q)) ∧ CZ σ' z) :=
  (b_area G l ad F R d σ z.1 z.2.1 z.2.2 hok (frOk_all hok) h n a q hn1 hn2 ha1 ha2 hq1 hq2).mono (fun r σ' hp => ⟨by rw [hp.1, area_eq hok h1 z.2.1 h.2.2.1.rok], hp.2⟩)
theorem w_move (G : xG) (l : Launch) (ad : Nat → Nat) (F : xM) (R : Nat × Nat) (d : Nat) (σ : cZ) (z : mT) (h : CZ σ z) (hok : okCf z.1) (n a b q : Int) (hn1 : -2147483648 ≤ n) (hn2 : n < 2147483648) (ha1 : -9223372036854775808 ≤ a) (ha2 : a < 9223372036854775808) (hb1 : -9223372036854775808 ≤ b) (hb2 : b < 9223372036854775808) (hq1 : -2147483648 ≤ q) (hq2 : q < 2147483648) : cC G l ad F R YX8_move (d + 7) [.ref (ad 0), .int (iI n), .long (iL a), .long (iL b), .int (iI q)] σ (fun r σ' => r = some (.long (spMove z n a b q)) ∧ CZ σ' z) :=
  (b_move G l ad F R d σ z.1 z.2.1 z.2.2 hok.l (frOk_all hok.l) hok.2.2.2.2 h n a b q hn1 hn2 ha1 ha2 hb1 hb2 hq1 hq2).mono (fun r σ' hp => ⟨by rw [hp.1, move_eq hok.l hok.1 z.2.1 z.2.2], hp.2⟩)
theorem w_turned (G : xG) (l : Launch) (ad : Nat → Nat) (F : xM) (R : Nat × Nat) (d : Nat) (σ : cZ) (z : mT) (h : CZ σ z) (hok : okL z.1) (h1 : 1 ≤ z.1.m) (n : Int) (hn1 : -2147483648 ≤ n) (hn2 : n < 2147483648) : cC G l ad F R YX8_turned (d + 7) [.ref (ad 0), .int (iI n)] σ (fun r σ' => r = some (.int (bI (spTurned z n))) ∧ CZ σ' z) :=
  (b_turned G l ad F R d σ z.1 z.2.1 z.2.2 hok (frOk_all hok) h n hn1 hn2).mono (fun r σ' hp => ⟨by rw [hp.1, turned_eq hok h1 z.2.1 h.2.2.1.rok], hp.2⟩)
theorem w_sums (G : xG) (l : Launch) (ad : Nat → Nat) (F : xM) (R : Nat × Nat) (d : Nat) (σ : cZ) (z : mT) (h : CZ σ z) (hok : okL z.1) (h1 : 1 ≤ z.1.m) : cC G l ad F R YX8_sums (d + 7) [.ref (ad 0)] σ (fun r σ' => r = some (.int (bI (spSums z.1))) ∧ CZ σ' z) :=
  (b_sums G l ad F R d σ z.1 z.2.1 z.2.2 hok (frOk_all hok) h1 h).mono (fun r σ' hp => ⟨by rw [hp.1, sums_eq hok h1], hp.2⟩)
/-- what is settled stays so over every call -/
theorem seI_read (t : List Nat) : seI (rdCf t) := fun _ _ _ => rfl
theorem seI_m {z : mT} (h : seI z.1) (k L E : Int) : seI (spMember z k L E).2.2.1 := by
  unfold spMember
  split
  · exact h
  · split
    · exact h
    · exact h
theorem seI_h {z : mT} (h : seI z.1) (k a : Int) (b : Bool) : seI (spHinge z k a b).2.2.1 := by
  unfold spHinge
  split
  · exact h
  · split
    · exact h
    · exact h
theorem seI_s {z : mT} (h : seI z.1) (k a : Int) (b : Bool) : seI (spSupport z k a b).2.2.1 := by
  unfold spSupport
  split
  · exact h
  · split
    · exact h
    · split
      · intro i hi hH
        show (if b = true then z.1.Se else mu z.1.Se k.toNat 0) i = 0
        have hH : mu z.1.Hi k.toNat b i = false := hH
        by_cases e : i = k.toNat
        · rw [e, mu_s] at hH
          rw [hH, if_neg (by decide), e, mu_s]
        · rw [mu_n e] at hH
          split
          · exact h i hi hH
          · rw [mu_n e]; exact h i hi hH
      · exact h
theorem seI_t {z : mT} (h : seI z.1) (k v : Int) : seI (spSettled z k v).2.1 := by
  unfold spSettled
  split
  · exact h
  · rename_i hn
    intro i hi hH
    show mu z.1.Se k.toNat v i = 0
    have hH : z.1.Hi i = false := hH
    by_cases e : i = k.toNat
    · exact absurd (Or.inr (Or.inr (Or.inl (by rw [← e]; exact hH)))) hn
    · rw [mu_n e]; exact h i hi hH
theorem seI_r {z : mT} (h : seI z.1) : seI (spRead z).2.1 := by
  unfold spRead
  split
  · exact h
  · exact seI_read _
theorem seI_w {z : mT} (h : seI z.1) (w m p : Int) : seI (spRow z w m p).2.1 := by
  unfold spRow
  split
  · exact h
  · exact h
end XU1
