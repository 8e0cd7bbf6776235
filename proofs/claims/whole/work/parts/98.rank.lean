section ZR
theorem gcdU_dvd {f : Nat → Int} : ∀ n j, j < n → gcdU f n ∣ (f j).natAbs
  | 0, j, h => by omega
  | n + 1, j, h => by
    unfold gcdU
    by_cases e : j = n
    · rw [e]; exact Nat.gcd_dvd_right _ _
    · exact Nat.dvd_trans (Nat.gcd_dvd_left _ _) (gcdU_dvd n j (by omega))
theorem gcdU_mul {f : Nat → Int} {D H : Nat} : ∀ n, (∀ j, j < n → D ∣ H * (f j).natAbs) → D ∣ H * gcdU f n
  | 0, _ => by unfold gcdU; exact Nat.dvd_zero _
  | n + 1, h => by
    unfold gcdU
    rw [← Nat.gcd_mul_left]
    exact Nat.dvd_gcd (gcdU_mul n (fun j hj => h j (by omega))) (h n (by omega))
/-- a row that is cleared, and its minors -/
theorem clr_div {W : Nat → Nat → Int} {i k c : Nat} {D H : Int} {v : Nat → Int} (hD : D ≠ 0) (hH : H ≠ 0) (h : ∀ j, j < 6 → D * v j = H * clrV W i k c j) : ∃ g : Int, g ≠ 0 ∧ ∀ j, j < 6 → v j = g * clrM W i k c i j := by
  have e0 : ∀ j, clrM W i k c i j = if 1 < gcdU (clrV W i k c) 6 then (clrV W i k c j).tdiv (gcdU (clrV W i k c) 6) else clrV W i k c j := fun j => if_pos rfl
  have hd := gcdU_dvd (f := clrV W i k c) 6
  have hm := gcdU_mul (f := clrV W i k c) (D := D.natAbs) (H := H.natAbs) 6 (fun j hj => by
    rw [← Int.natAbs_mul, ← h j hj, Int.natAbs_mul]; exact Nat.dvd_mul_right _ _)
  generalize hG : gcdU (clrV W i k c) 6 = G at *
  by_cases hz : G = 0
  · refine ⟨1, by decide, fun j hj => ?_⟩
    have h1 := hd j hj
    rw [hz] at h1
    have h2 : clrV W i k c j = 0 := Int.natAbs_eq_zero.mp (Nat.eq_zero_of_zero_dvd h1)
    have h3 := h j hj
    rw [h2, Int.mul_zero] at h3
    rw [e0, if_neg (by omega), h2, Int.mul_zero]
    rcases Int.mul_eq_zero.mp h3 with e | e
    · exact absurd e hD
    · exact e
  · have hw : ∀ j, j < 6 → clrV W i k c j = (G : Int) * clrM W i k c i j := fun j hj => by
      rw [e0]
      have h1 : (G : Int) ∣ clrV W i k c j := Int.ofNat_dvd_left.mpr (hd j hj)
      by_cases e : 1 < G
      · rw [if_pos e]
        exact (Int.mul_tdiv_cancel' h1).symm
      · rw [if_neg e, show G = 1 by omega]; omega
    have hdv : D ∣ H * (G : Int) := by
      rw [← Int.natAbs_dvd_natAbs, Int.natAbs_mul, Int.natAbs_natCast]; exact hm
    obtain ⟨g, hg⟩ := hdv
    refine ⟨g, fun e => ?_, fun j hj => ?_⟩
    · rw [e, Int.mul_zero] at hg
      rcases Int.mul_eq_zero.mp hg with f | f
      · exact hH f
      · omega
    · have h3 := h j hj
      rw [hw j hj, ← Int.mul_assoc, hg, Int.mul_assoc] at h3
      exact Int.eq_of_mul_eq_mul_left hD h3
theorem clrs_eq (W : Nat → Nat → Int) (r c : Nat) : ∀ t i' j, clrs W r c t i' j = if r < i' ∧ i' ≤ r + t then clrM W i' r c i' j else W i' j
  | 0, i', j => by rw [if_neg (by omega)]; rfl
  | t + 1, i', j => by
    show clrM (clrs W r c t) (r + 1 + t) r c i' j = _
    have hr : ∀ j, clrs W r c t r j = W r j := fun j => by rw [clrs_eq W r c t r j, if_neg (by omega)]
    have hi : ∀ j, clrs W r c t (r + 1 + t) j = W (r + 1 + t) j := fun j => by rw [clrs_eq W r c t (r+1+t) j, if_neg (by omega)]
    have hv : clrV (clrs W r c t) (r + 1 + t) r c = clrV W (r + 1 + t) r c := by
      funext j; unfold clrV; rw [hr, hr, hi, hi]
    by_cases e : i' = r + 1 + t
    · rw [if_pos (by omega), e]
      unfold clrM
      rw [if_pos rfl, if_pos rfl, hv]
    · unfold clrM
      rw [if_neg e, clrs_eq W r c t i' j]
      by_cases e2 : r < i' ∧ i' ≤ r + t
      · rw [if_pos e2, if_pos (by omega)]; rfl
      · rw [if_neg e2, if_neg (by omega)]
theorem clrs_V (W : Nat → Nat → Int) (r c t : Nat) : clrV (clrs W r c t) (r + 1 + t) r c = clrV W (r + 1 + t) r c := by
  funext j; unfold clrV
  rw [clrs_eq, clrs_eq, clrs_eq, clrs_eq, if_neg (by omega), if_neg (by omega), if_neg (by omega), if_neg (by omega)]
/-- where the search for the rank stands -/
def zR (W0 : Nat → Nat → Int) (n c : Nat) (p q : Nat → Nat) (W : Nat → Nat → Int) (r : Nat) : Prop :=
  (∀ i, i < n → p i < n) ∧ (∀ s, s < n → ∃ i, i < n ∧ p i = s) ∧ (r ≤ c ∧ r ≤ n) ∧ ((∀ b, b < r → q b < c) ∧ ∀ a b, a < b → b < r → q a < q b) ∧ zP W0 p q r ≠ 0 ∧ (∀ i j, r ≤ i → i < n → j < c → zE W0 p q r (p i) j = 0) ∧ (∀ i, r ≤ i → i < n → ∃ g : Int, g ≠ 0 ∧ ∀ j, j < 6 → zE W0 p q r (p i) j = g * W i j) ∧ ∀ i j, i < r → j < 6 → (W i j).natAbs ≤ 191102976
theorem zS_sel {n : Nat} {f : Nat → Int} (hf : ∀ j, j < 6 → 0 ≤ f j) {col : Nat → Nat} (hc : ∀ b, b < n → col b < 6) (inj : ∀ a b, a < b → b < n → col a ≠ col b) : zS n (fun b => f (col b)) ≤ zS 6 f := by
  have e1 : zS n (fun b => f (col b)) = zS 6 (fun j => zS n (fun b => if col b = j then f j else 0)) := by
    rw [← zS_swap]
    refine zS_congr (fun b hb => ?_)
    rw [zS_one (hc b hb) (fun j _ hne => if_neg (Ne.symm hne)), if_pos rfl]
  rw [e1]
  refine zS_le (fun j hj => ?_)
  have h : ∀ t, t ≤ n → zS t (fun b => if col b = j then f j else 0) ≤ f j ∧ ((∀ b, b < t → col b ≠ j) → zS t (fun b => if col b = j then f j else 0) = 0) := by
    intro t
    induction t with
    | zero => intro _; exact ⟨hf j hj, fun _ => rfl⟩
    | succ t ih =>
      intro ht
      obtain ⟨h1, h2⟩ := ih (by omega)
      have hs : zS (t+1) (fun b => if col b = j then f j else 0) = zS t (fun b => if col b = j then f j else 0) + (if col t = j then f j else 0) := rfl
      rw [hs]
      refine ⟨?_, fun hn => ?_⟩
      · by_cases e : col t = j
        · rw [if_pos e, h2 (fun b hb hbj => inj b t hb (by omega) (by rw [hbj, e]))]; omega
        · rw [if_neg e]; omega
      · rw [h2 (fun b hb => hn b (by omega)), if_neg (hn t (by omega))]; rfl
  exact (h n (Nat.le_refl _)).1
/-- lines with small numbers -/
def zRs (W0 : Nat → Nat → Int) (n : Nat) : Prop := ∀ i, i < n → zS 6 (fun j => ((W0 i j).natAbs : Int)) ≤ 24
theorem zR_bd {W0 : Nat → Nat → Int} {n c r : Nat} {p q : Nat → Nat} {W : Nat → Nat → Int} (hs : zRs W0 n) (h : zR W0 n c p q W r) (hc : c < 6) {i j : Nat} (hi : r ≤ i) (hin : i < n) (hj : j < 6) : (W i j).natAbs ≤ 191102976 := by
  obtain ⟨g, hg, hE⟩ := h.2.2.2.2.2.2.1 i hi hin
  have h1 : (W i j).natAbs ≤ (zE W0 p q r (p i) j).natAbs := by
    rw [hE j hj, Int.natAbs_mul]
    exact Nat.le_mul_of_pos_left _ (by omega)
  refine Nat.le_trans h1 ?_
  by_cases e : j < c
  · rw [h.2.2.2.2.2.1 i j hi hin e]; decide
  · have hr := h.2.2.1.1
    have h2 := zD_bd (r+1) (fun a b => W0 (if b < r then p b else p i) (if a < r then q a else j)) (fun _ => 24) (fun b hb => by
      have hrow : (if b < r then p b else p i) < n := by
        split
        · exact h.1 b (by have := h.2.2.1.2; omega)
        · exact h.1 i hin
      refine Int.le_trans (zS_sel (n := r+1) (f := fun j => ((W0 (if b < r then p b else p i) j).natAbs : Int)) (fun _ _ => by omega) (col := fun a => if a < r then q a else j) (fun a ha => ?_) (fun a a' haa ha' => ?_)) (hs _ hrow)
      · show (if a < r then q a else j) < 6
        split
        · have := h.2.2.2.1.1 a (by assumption); omega
        · exact hj
      · show (if a < r then q a else j) ≠ (if a' < r then q a' else j)
        rw [if_pos (by omega)]
        split
        · have := h.2.2.2.1.2 a a' haa (by assumption); omega
        · have := h.2.2.2.1.1 a (by omega); omega)
    have h3 : zD (r+1) (fun a b => W0 (if b < r then p b else p i) (if a < r then q a else j)) = zE W0 p q r (p i) j := zD_t (r+1) (fun a b => W0 (if a < r then p a else p i) (if b < r then q b else j))
    rw [h3, zM_c] at h2
    have h4 : (24 : Int) ^ (r+1) ≤ 24 ^ 6 := by
      have := Nat.pow_le_pow_right (n := 24) (by decide) (show r + 1 ≤ 6 by omega)
      have e1 : ((24 ^ (r+1) : Nat) : Int) = (24 : Int) ^ (r+1) := by rw [Int.natCast_pow]; rfl
      have e2 : ((24 ^ 6 : Nat) : Int) = (24 : Int) ^ 6 := by rw [Int.natCast_pow]; rfl
      omega
    have h5 : (24 : Int) ^ 6 = 191102976 := by decide
    omega
theorem zR_bdA {W0 : Nat → Nat → Int} {n c r : Nat} {p q : Nat → Nat} {W : Nat → Nat → Int} (hs : zRs W0 n) (h : zR W0 n c p q W r) (hc : c < 6) {i j : Nat} (hin : i < n) (hj : j < 6) : (W i j).natAbs ≤ 191102976 := by
  by_cases e : i < r
  · exact h.2.2.2.2.2.2.2 i j e hj
  · exact zR_bd hs h hc (by omega) hin hj
theorem zR_sw {W0 : Nat → Nat → Int} {n c r v : Nat} {p q : Nat → Nat} {W : Nat → Nat → Int} (h : zR W0 n c p q W r) (hv : r ≤ v) (hvn : v < n) : zR W0 n c (zs p v r) q (swR W v r) r := by
  obtain ⟨h1, h2, h3, h4, h5, h6, h7, h8⟩ := h
  have hc : ∀ a, a < r → p a = zs p v r a := fun a ha => by unfold zs; rw [if_neg (by omega), if_neg (by omega)]
  have hz : ∀ i, zs p v r i = p (if i = v then r else if i = r then v else i) := fun i => by
    unfold zs
    split
    · rfl
    · split <;> rfl
  have hw : ∀ i j, swR W v r i j = W (if i = v then r else if i = r then v else i) j := fun i j => by
    unfold swR
    split
    · rfl
    · split <;> rfl
  have hlt : ∀ i, r ≤ i → i < n → r ≤ (if i = v then r else if i = r then v else i) ∧ (if i = v then r else if i = r then v else i) < n := fun i a b => by
    split
    · omega
    · split <;> omega
  refine ⟨fun i hi => ?_, fun s hs => ?_, h3, h4, by rw [← zP_congr hc]; exact h5, fun i j a b e => ?_, fun i a b => ?_, fun i j a b => ?_⟩
  · rw [hz]
    refine h1 _ ?_
    split
    · omega
    · split <;> omega
  · obtain ⟨i, hi, hp⟩ := h2 s hs
    by_cases e1 : i = v
    · refine ⟨r, by omega, ?_⟩
      rw [hz, ← hp, e1]
      congr 1
      by_cases g : r = v
      · rw [if_pos g]; exact g
      · rw [if_neg g, if_pos rfl]
    · by_cases e2 : i = r
      · exact ⟨v, hvn, by rw [hz, if_pos rfl, ← e2]; exact hp⟩
      · exact ⟨i, hi, by rw [hz, if_neg e1, if_neg e2]; exact hp⟩
  · rw [← zE_congr hc, hz]
    exact h6 _ j (hlt i a b).1 (hlt i a b).2 e
  · obtain ⟨g, hg, hE⟩ := h7 _ (hlt i a b).1 (hlt i a b).2
    refine ⟨g, hg, fun j hj => ?_⟩
    rw [← zE_congr hc, hz, hw]
    exact hE j hj
  · rw [hw, if_neg (by omega), if_neg (by omega)]; exact h8 i j a b
theorem zEq_c {P : Nat → Nat → Int} {p q q' : Nat → Nat} {k x y : Nat} (h : ∀ a, a < k → q a = q' a) : zE P p q k x y = zE P p q' k x y := zD_congr (fun a b _ _ => by
  by_cases e : b < k
  · rw [if_pos e, if_pos e, h b e]
  · rw [if_neg e, if_neg e])
theorem zPq_c {P : Nat → Nat → Int} {p q q' : Nat → Nat} {k : Nat} (h : ∀ a, a < k → q a = q' a) : zP P p q k = zP P p q' k := zD_congr (fun a b _ hb => by rw [h b hb])
theorem zR_clr {W0 : Nat → Nat → Int} {n c r : Nat} {p q : Nat → Nat} {W : Nat → Nat → Int} (hs : zRs W0 n) (h : zR W0 n c p q W r) (hc : c < 6) (hr : r < n) (h0 : W r c ≠ 0) : zR W0 n (c+1) p (fun b => if b = r then c else q b) (clrs W r c (n - 1 - r)) (r+1) := by
  have hb := h
  obtain ⟨h1, h2, h3, h4, h5, h6, h7, h8⟩ := h
  have hq : ∀ b, b < r → q b = (fun b => if b = r then c else q b) b := fun b hb => by show _ = if b = r then c else q b; rw [if_neg (by omega)]
  have hqr : (fun b => if b = r then c else q b) r = c := if_pos rfl
  generalize (fun b => if b = r then c else q b) = q' at *
  obtain ⟨gr, hgr, hEr⟩ := h7 r (Nat.le_refl _) hr
  have hP1 : zP W0 p q' (r+1) = gr * W r c := by rw [← zE_p, hqr, ← zEq_c hq]; exact hEr c hc
  have hP0 : zP W0 p q' (r+1) ≠ 0 := by rw [hP1]; exact Int.mul_ne_zero hgr h0
  have hst : ∀ x j, zP W0 p q r * zE W0 p q' (r+1) x j = zP W0 p q' (r+1) * zE W0 p q r x j - zE W0 p q r x c * zE W0 p q r (p r) j := fun x j => by
    have := zE_step W0 p q' r x j (by rw [← zPq_c hq]; exact h5)
    rw [hqr, ← zEq_c hq, ← zEq_c hq, ← zEq_c hq, ← zPq_c hq] at this
    exact this
  refine ⟨h1, h2, by omega, ⟨fun b hb => ?_, fun a b hab hb => ?_⟩, hP0, fun i j a b e => ?_, fun i a b => ?_, fun i j a b => ?_⟩
  · by_cases e : b = r
    · rw [e, hqr]; omega
    · rw [← hq b (by omega)]; have := h4.1 b (by omega); omega
  · rw [← hq a (by omega)]
    by_cases e : b = r
    · rw [e, hqr]; exact h4.1 a (by omega)
    · rw [← hq b (by omega)]; exact h4.2 a b hab (by omega)
  · have hz : zP W0 p q r * zE W0 p q' (r+1) (p i) j = 0 := by
      rw [hst]
      by_cases f : j = c
      · rw [f, hP1, hEr c hc]; grind
      · rw [h6 i j (by omega) b (by omega), h6 r j (Nat.le_refl _) hr (by omega)]; omega
    rcases Int.mul_eq_zero.mp hz with f | f
    · exact absurd f h5
    · exact f
  · obtain ⟨g, hg, hE⟩ := h7 i (by omega) b
    obtain ⟨g', hg', hE'⟩ := clr_div (W := W) (i := i) (k := r) (c := c) (D := zP W0 p q r) (H := gr * g) (v := fun j => zE W0 p q' (r+1) (p i) j) h5 (Int.mul_ne_zero hgr hg) (fun j hj => by
      show zP W0 p q r * zE W0 p q' (r+1) (p i) j = _
      rw [hst, hP1, hE j hj, hE c hc, hEr j hj]
      unfold clrV
      grind)
    refine ⟨g', hg', fun j hj => ?_⟩
    rw [clrs_eq, if_pos (by omega)]
    exact hE' j hj
  · rw [clrs_eq, if_neg (by omega)]
    by_cases e : i = r
    · rw [e]; exact zR_bd hs hb hc (Nat.le_refl _) hr b
    · exact h8 i j (by omega) b
theorem zR_all {W0 : Nat → Nat → Int} {n : Nat} (hs : zRs W0 n) : ∀ c, c ≤ 6 → ∃ p q, zR W0 n c p q (rkS W0 n c).1 (rkS W0 n c).2
  | 0, _ => ⟨fun i => i, fun b => b, fun _ h => h, fun s h => ⟨s, h, rfl⟩, ⟨Nat.le_refl _, Nat.zero_le _⟩, ⟨fun b hb => absurd (show b < 0 from hb) (by omega), fun a b _ hb => absurd (show b < 0 from hb) (by omega)⟩, by show (1 : Int) ≠ 0; decide, fun i j _ _ h => absurd h (by omega), fun i _ _ => ⟨1, by decide, fun j _ => by
      show zD 1 (fun a b => W0 (if a < 0 then a else i) (if b < 0 then b else j)) = 1 * W0 i j
      simp only [zD, zS, zG_0]
      rw [if_neg (by omega), if_neg (by omega)]; omega⟩, fun i j h => absurd (show i < 0 from h) (by omega)⟩
  | c + 1, hc => by
    obtain ⟨p, q, h⟩ := zR_all hs c (by omega)
    have e1 : (rkS W0 n (c+1)) = if pivR (rkS W0 n c).1 c (n - (rkS W0 n c).2) (rkS W0 n c).2 = n then rkS W0 n c else (clrs (swR (rkS W0 n c).1 (pivR (rkS W0 n c).1 c (n - (rkS W0 n c).2) (rkS W0 n c).2) (rkS W0 n c).2) (rkS W0 n c).2 c (n - 1 - (rkS W0 n c).2), (rkS W0 n c).2 + 1) := rfl
    rw [e1]
    have hle := h.2.2.1.2
    by_cases e : pivR (rkS W0 n c).1 c (n - (rkS W0 n c).2) (rkS W0 n c).2 = n
    · rw [if_pos e]
      obtain ⟨h1, h2, h3, h4, h5, h6, h7, h8⟩ := h
      refine ⟨p, q, h1, h2, ⟨by omega, h3.2⟩, ⟨fun b hb => by have := h4.1 b hb; omega, h4.2⟩, h5, fun i j a b f => ?_, h7, h8⟩
      by_cases g : j = c
      · obtain ⟨gg, hg, hE⟩ := h7 i a b
        rw [hE j (by omega), g]
        have : (rkS W0 n c).1 i c = 0 := Classical.byContradiction (fun hne => by
          have := pivR_ex (W := (rkS W0 n c).1) (c := c) (n - (rkS W0 n c).2) (rkS W0 n c).2 ⟨i, a, by omega, hne⟩
          omega)
        rw [this, Int.mul_zero]
      · exact h6 i j a b (by omega)
    · rw [if_neg e]
      have hge := pivR_ge (rkS W0 n c).1 c (n - (rkS W0 n c).2) (rkS W0 n c).2
      have hne := pivR_ne (W := (rkS W0 n c).1) (c := c) (n - (rkS W0 n c).2) (rkS W0 n c).2 (by omega)
      have hsw := zR_sw h hge.1 (by omega)
      refine ⟨_, _, zR_clr hs hsw (by omega) (by omega) ?_⟩
      unfold swR
      by_cases f : (rkS W0 n c).2 = pivR (rkS W0 n c).1 c (n - (rkS W0 n c).2) (rkS W0 n c).2
      · rw [if_pos f, f]
        rw [← f]; rw [← f] at hne; exact hne
      · rw [if_neg f, if_pos rfl]; exact hne
theorem rkOk_all {W0 : Nat → Nat → Int} {n : Nat} (hs : zRs W0 n) : rkOk W0 n ∧ rkBd W0 n := by
  refine ⟨fun c hc hp t ht j hj => ?_, fun c hc i j hi hj => ?_⟩
  · obtain ⟨p, q, h⟩ := zR_all hs c (by omega)
    have hge := pivR_ge (rkS W0 n c).1 c (n - (rkS W0 n c).2) (rkS W0 n c).2
    have hle := h.2.2.1.2
    have hsw := zR_sw h hge.1 (by omega)
    rw [clrs_V]
    have b1 := zR_bdA hs hsw hc (i := (rkS W0 n c).2) (j := c) (by omega) hc
    have b2 := zR_bdA hs hsw hc (i := (rkS W0 n c).2 + 1 + t) (j := j) (by omega) hj
    have b3 := zR_bdA hs hsw hc (i := (rkS W0 n c).2 + 1 + t) (j := c) (by omega) hc
    have b4 := zR_bdA hs hsw hc (i := (rkS W0 n c).2) (j := j) (by omega) hj
    unfold clrV
    have m1 := Nat.mul_le_mul b1 b2
    have m2 := Nat.mul_le_mul b3 b4
    rw [← Int.natAbs_mul] at m1 m2
    omega
  · obtain ⟨p, q, h⟩ := zR_all hs c (by omega)
    have := zR_bdA hs h hc hi hj
    omega
/-- a column is free: a vector that all lines take to 0 ends there -/
def zfr (W0 : Nat → Nat → Int) (n c : Nat) : Prop := ∃ x : Nat → Int, (∀ s, s < n → zS 6 (fun j => W0 s j * x j) = 0) ∧ x c ≠ 0 ∧ ∀ j, c < j → j < 6 → x j = 0
theorem rk_step {W0 : Nat → Nat → Int} {n : Nat} (hs : zRs W0 n) {c : Nat} (hc : c < 6) : (zfr W0 n c → (rkS W0 n (c+1)).2 = (rkS W0 n c).2) ∧ (¬ zfr W0 n c → (rkS W0 n (c+1)).2 = (rkS W0 n c).2 + 1) := by
  obtain ⟨p, q, h⟩ := zR_all hs c (by omega)
  have hle := h.2.2.1.2
  have hge := pivR_ge (rkS W0 n c).1 c (n - (rkS W0 n c).2) (rkS W0 n c).2
  have e1 : (rkS W0 n (c+1)) = if pivR (rkS W0 n c).1 c (n - (rkS W0 n c).2) (rkS W0 n c).2 = n then rkS W0 n c else (clrs (swR (rkS W0 n c).1 (pivR (rkS W0 n c).1 c (n - (rkS W0 n c).2) (rkS W0 n c).2) (rkS W0 n c).2) (rkS W0 n c).2 c (n - 1 - (rkS W0 n c).2), (rkS W0 n c).2 + 1) := rfl
  obtain ⟨h1, h2, h3, h4, h5, h6, h7, h8⟩ := h
  by_cases e : pivR (rkS W0 n c).1 c (n - (rkS W0 n c).2) (rkS W0 n c).2 = n
  · rw [e1, if_pos e]
    refine ⟨fun _ => rfl, fun hn => absurd ?_ hn⟩
    have hz : ∀ s, s < n → zE W0 p q (rkS W0 n c).2 s c = 0 := fun s hs' => by
      obtain ⟨i, hi, hp⟩ := h2 s hs'
      rw [← hp]
      by_cases f : i < (rkS W0 n c).2
      · exact zE_r0 W0 p q _ c f
      · obtain ⟨gg, hg, hE⟩ := h7 i (by omega) hi
        rw [hE c hc]
        have : (rkS W0 n c).1 i c = 0 := Classical.byContradiction (fun hne => by
          have := pivR_ex (W := (rkS W0 n c).1) (c := c) (n - (rkS W0 n c).2) (rkS W0 n c).2 ⟨i, by omega, by omega, hne⟩
          omega)
        rw [this, Int.mul_zero]
    have hq : ∀ a, a < (rkS W0 n c).2 → q a < 6 := fun a ha => by have := h4.1 a ha; omega
    refine ⟨fun l => zS (rkS W0 n c).2 (fun b => if q b = l then -zT W0 p q (rkS W0 n c).2 b c else 0) + (if l = c then zP W0 p q (rkS W0 n c).2 else 0), fun s hs' => ?_, ?_, fun j hj1 hj2 => ?_⟩
    · have hZ := zE_Z W0 p q (rkS W0 n c).2 s c
      rw [hz s hs'] at hZ
      have e2 : ∀ l, l < 6 → W0 s l * (zS (rkS W0 n c).2 (fun b => if q b = l then -zT W0 p q (rkS W0 n c).2 b c else 0) + (if l = c then zP W0 p q (rkS W0 n c).2 else 0)) = zS (rkS W0 n c).2 (fun b => W0 s l * (if q b = l then -zT W0 p q (rkS W0 n c).2 b c else 0)) + W0 s l * (if l = c then zP W0 p q (rkS W0 n c).2 else 0) := fun l _ => by
        rw [Int.mul_add, ← zS_mul]
      rw [zS_congr e2, zS_add, zS_swap, zS_one (n := 6) hc (fun l _ hne => by rw [if_neg hne, Int.mul_zero]), if_pos rfl]
      rw [zS_congr (n := (rkS W0 n c).2) (g := fun b => (-1) * (W0 s (q b) * zT W0 p q (rkS W0 n c).2 b c)) (fun b hb => by
        rw [zS_one (hq b hb) (fun l _ hne => by rw [if_neg (Ne.symm hne), Int.mul_zero]), if_pos rfl]; grind), zS_mul]
      rw [Int.mul_comm (W0 s c)]
      omega
    · show zS (rkS W0 n c).2 (fun b => if q b = c then -zT W0 p q (rkS W0 n c).2 b c else 0) + (if c = c then zP W0 p q (rkS W0 n c).2 else 0) ≠ 0
      rw [zS_zero (fun b hb => if_neg (by have := h4.1 b hb; omega)), if_pos rfl, Int.zero_add]; exact h5
    · show zS (rkS W0 n c).2 (fun b => if q b = j then -zT W0 p q (rkS W0 n c).2 b c else 0) + (if j = c then zP W0 p q (rkS W0 n c).2 else 0) = 0
      rw [zS_zero (fun b hb => if_neg (by have := h4.1 b hb; omega)), if_neg (by omega)]; rfl
  · rw [e1, if_neg e]
    refine ⟨fun ⟨x, hx, hxc, hx0⟩ => absurd ?_ hxc, fun _ => rfl⟩
    have hne := pivR_ne (W := (rkS W0 n c).1) (c := c) (n - (rkS W0 n c).2) (rkS W0 n c).2 (by omega)
    have hin : pivR (rkS W0 n c).1 c (n - (rkS W0 n c).2) (rkS W0 n c).2 < n := by omega
    generalize pivR (rkS W0 n c).1 c (n - (rkS W0 n c).2) (rkS W0 n c).2 = i at *
    obtain ⟨gg, hg, hE⟩ := h7 i hge.1 hin
    obtain ⟨C, hC⟩ := zE_row W0 p q (rkS W0 n c).2 (p i)
    have e2 : zS 6 (fun j => zE W0 p q (rkS W0 n c).2 (p i) j * x j) = 0 := by
      rw [zS_congr (g := fun j => zS (rkS W0 n c).2 (fun l => C l * (W0 (p l) j * x j)) + zP W0 p q (rkS W0 n c).2 * (W0 (p i) j * x j)) (fun j _ => by
        rw [hC, Int.add_mul, Int.mul_comm (zS _ _), ← zS_mul]
        congr 1
        · exact zS_congr (fun l _ => by grind)
        · grind), zS_add, zS_swap, zS_mul, hx (p i) (h1 i hin), Int.mul_zero, Int.add_zero]
      refine zS_zero (fun l hl => ?_)
      rw [zS_mul, hx (p l) (h1 l (by omega)), Int.mul_zero]
    rw [zS_one hc (fun j hj hne' => by
      by_cases f : j < c
      · rw [h6 i j hge.1 hin f, Int.zero_mul]
      · rw [hx0 j (by omega) hj, Int.mul_zero]), hE c hc] at e2
    rcases Int.mul_eq_zero.mp e2 with f | f
    · exact absurd f (Int.mul_ne_zero hg hne)
    · exact f
end ZR
