section XW6
def offC (k : Nat) : Nat := ([0, 1, 8, 15, 17, 143, 149, 155, 181, 156, 186, 197, 198, 199, 2, 3, 4, 5, 6, 7, 9, 10, 11, 12, 13, 14, 16, 18, 19, 20, 21, 22, 23, 24, 144, 145, 146, 150, 151, 152, 0, 0, 0, 0, 0, 0, 0, 0, 0, 0, 0, 0, 0, 0, 0, 0, 0, 0, 0, 0, 0, 0, 0, 0, 0, 0, 0, 0, 0, 0, 0, 0, 0, 0, 0, 0, 0, 0, 0, 0, 0, 0, 0, 0, 0, 0, 0, 0, 0, 0, 0, 0, 0, 0, 0, 0, 0, 0, 0, 0, 33, 35, 37, 39, 41, 43, 45, 47, 49, 51, 53, 55, 57, 59, 61, 63, 65, 67, 69, 71, 73, 75, 77, 79, 81, 83, 85, 87, 89, 91, 93, 95, 97, 99, 101, 103, 105, 107, 109, 111, 113, 115, 117, 119, 121, 123, 125, 127, 129, 131, 133, 135, 137, 139, 141, 25, 27, 29, 31, 195, 147, 153, 163, 165, 167, 169, 171, 173, 175, 177, 179, 182, 184, 193, 157, 159, 161, 187, 189, 191, 0, 0, 0, 0, 0, 0, 0, 0, 0, 0, 0, 0, 0, 0, 0, 0, 0, 0, 0, 0, 34, 36, 38, 40, 42, 44, 46, 48, 50, 52, 54, 56, 58, 60, 62, 64, 66, 68, 70, 72, 74, 76, 78, 80, 82, 84, 86, 88, 90, 92, 94, 96, 98, 100, 102, 104, 106, 108, 110, 112, 114, 116, 118, 120, 122, 124, 126, 128, 130, 132, 134, 136, 138, 140, 142, 26, 28, 30, 32, 196, 148, 154, 164, 166, 168, 170, 172, 174, 176, 178, 180, 183, 185, 194, 158, 160, 162, 188, 190, 192] : List Nat).getD k 0
def invC (k : Nat) : Nat := ([0, 1, 14, 15, 16, 17, 18, 19, 2, 20, 21, 22, 23, 24, 25, 3, 26, 4, 27, 28, 29, 30, 31, 32, 33, 155, 255, 156, 256, 157, 257, 158, 258, 100, 200, 101, 201, 102, 202, 103, 203, 104, 204, 105, 205, 106, 206, 107, 207, 108, 208, 109, 209, 110, 210, 111, 211, 112, 212, 113, 213, 114, 214, 115, 215, 116, 216, 117, 217, 118, 218, 119, 219, 120, 220, 121, 221, 122, 222, 123, 223, 124, 224, 125, 225, 126, 226, 127, 227, 128, 228, 129, 229, 130, 230, 131, 231, 132, 232, 133, 233, 134, 234, 135, 235, 136, 236, 137, 237, 138, 238, 139, 239, 140, 240, 141, 241, 142, 242, 143, 243, 144, 244, 145, 245, 146, 246, 147, 247, 148, 248, 149, 249, 150, 250, 151, 251, 152, 252, 153, 253, 154, 254, 5, 34, 35, 36, 160, 260, 6, 37, 38, 39, 161, 261, 7, 9, 174, 274, 175, 275, 176, 276, 162, 262, 163, 263, 164, 264, 165, 265, 166, 266, 167, 267, 168, 268, 169, 269, 170, 270, 8, 171, 271, 172, 272, 10, 177, 277, 178, 278, 179, 279, 173, 273, 159, 259, 11, 12, 13] : List Nat).getD k 0
def asT (k : Nat) : Nat := ([0, 201, 0, 0, 202, 203, 204, 205, 206, 207, 0, 208, 209, 210, 211, 212, 213, 214, 215, 216, 217, 0, 0, 0, 218, 0, 219, 0, 220, 0, 0, 221, 222, 223, 224, 225, 226, 227] : List Nat).getD k 0
def adC (N : Nat) (k : Nat) : Nat := N + offC k
def asC (N : Nat) (k : Nat) : Nat := N + asT k
set_option maxRecDepth 100000 in
theorem inv_off : ∀ k, k < 280 → (k < 40 ∨ (100 ≤ k ∧ k < 180) ∨ (200 ≤ k ∧ k < 280)) → invC (offC k) = k ∧ offC k < 200 := by decide +kernel
theorem off_big : ∀ k, k < 55 → offC (100 + k) = 33 + 2 * k ∧ offC (200 + k) = 34 + 2 * k := by decide +kernel
theorem as_ok : (∀ j ∈ mArr, ∀ k ∈ mArr, asT j = asT k → j = k) ∧ ∀ k ∈ mArr, 200 < asT k ∧ asT k < 228 := by decide +kernel
def i0 (k : Nat) : Nat → Int32 := if k = 1 ∨ k = 2 then (fun j => if j = 6 then nI 1 else 0) else if k = 17 ∨ k = 18 ∨ k = 23 ∨ k = 24 then oneF else fun _ => 0
def l0 (f0 f1 g0 g1 : Nat → Int64) (k : Nat) : Nat → Int64 := if k = 0 then (fun j => if j = 13 then -1 else 0) else if k = 14 then f0 else if k = 15 then f1 else if k = 20 then g0 else if k = 21 then g1 else fun _ => 0
def p0 (N : Nat) (k : Nat) : Nat → Nat := if 100 ≤ k then (fun j => if j = 0 then N + offC (k + 100) else 16) else (fun j => if j = 1 then 148 + 3 * k else 149 + 3 * k)
def sig0 (N : Nat) (f0 f1 g0 g1 : Nat → Int64) : cZ := fun k => (i0 k, l0 f0 f1 g0 g1 k, p0 N k)
def tau0 : mS := (fun k => if k = 3 then nI 1 else 0, fun k => if k = 4 ∨ k = 5 then oneI else if k = 7 ∨ k = 8 then oneF else fun _ => 0, fun _ _ => 0)
def c00 : mCf := (1, fun _ => 1, fun _ => 1, fun _ => false, fun k => k == 0, fun k => k == 0, fun _ => 0)
/-- a row of cells from N on -/
def nb (M : xM) (N : Nat) (L : List xE) : Prop := ∀ i, i < L.length → M (N + i) = L[i]?
theorem nb.l {M : xM} {N : Nat} {A B : List xE} (h : nb M N (A ++ B)) : nb M N A := fun i hi => by rw [h i (by rw [List.length_append]; omega), List.getElem?_append_left hi]
theorem nb.r {M : xM} {N n : Nat} {A B : List xE} (h : nb M N (A ++ B)) (hn : A.length = n) : nb M (N + n) B := fun i hi => by
  have := h (n + i) (by rw [List.length_append]; omega)
  rw [← Nat.add_assoc] at this
  rw [this, List.getElem?_append_right (by omega), show n + i - A.length = i by omega]
theorem nb.at {M : xM} {N : Nat} {L : List xE} (h : nb M N L) (i : Nat) {e : xE} (he : L[i]? = some e) : M (N + i) = some e := by
  rw [h i (by obtain ⟨h1, -⟩ := List.getElem?_eq_some_iff.mp he; exact h1)]; exact he
theorem nb.up {M : xM} {N : Nat} {L : List xE} (h : nb M N L) {a : Nat} {e : xE} (ha : a < N ∨ N + L.length ≤ a) : nb (xup M a e) N L := fun i hi => by rw [xup_n (by omega)]; exact h i hi
def allP : Nat → (Nat → Prop) → Prop
  | 0, _ => True
  | n + 1, P => allP n P ∧ P n
theorem allLt (P : Nat → Prop) : ∀ n, allP n P → ∀ k, k < n → P k
  | 0, _, k, hk => absurd hk (by omega)
  | n + 1, h, k, hk => by
    by_cases e : k = n
    · rw [e]; exact h.2
    · exact allLt P n h.1 k (by omega)
/-- an array of references, its row told otherwise -/
theorem x_fun {G : xG} {l : Launch} {Y : xY} {d : Nat} {Q : xPost} {pc : Nat} {ls : List (Nat × Value)} {st : List Value} {M : xM} {N S : Nat} {a n : Nat} {ty : FieldType} {f g : Nat → Option Nat} (hM : M a = some (.inl (ty, n, .inr (.inr (.inr (.inr f)))))) (hfg : ∀ j, j < n → f j = g j) (k : xX G l Y d Q pc ls st (xup M a (.inl (ty, n, .inr (.inr (.inr (.inr g)))))) N S) : xX G l Y d Q pc ls st M N S := by
  intro p e R s m args below meth c H locs lsA hF hH
  refine k p e R s m args below meth c H locs lsA hF ⟨hH.1, ?_, hH.2.2⟩
  refine hH.2.1.set hM ?_ rfl (fun _ _ => rfl)
  have h1 := (hH.2.1.1 a _ hM).1
  have e1 : vp_cell (G.2.1 ty) (n, .inr (.inr (.inr (.inr f)))) = vp_cell (G.2.1 ty) (n, .inr (.inr (.inr (.inr g)))) := by
    show arrV (G.2.1 ty) n (fun j => va_rf (f j)) = arrV (G.2.1 ty) n (fun j => va_rf (g j))
    unfold arrV
    congr 2
    funext j
    show va_rf (f j.val) = va_rf (g j.val)
    rw [hfg j.val j.isLt]
  show H[a]? = some (vp_cell (G.2.1 ty) (n, .inr (.inr (.inr (.inr g)))))
  rw [← e1]
  exact h1
theorem oneF_b : ∀ k, k < 4 → oneF k = bI (k == 0) := by decide +kernel
theorem z0_CZ {N : Nat} {f0 f1 g0 g1 : Nat → Int64} (h0 : ∀ j, j < 3 → f0 j = lN 1) (h1 : ∀ j, j < 3 → f1 j = lN 1) : CZ (sig0 N f0 f1 g0 g1) (c00, [], []) := by
  refine ⟨⟨by decide, rfl, h0, h1, fun k _ => rfl, oneF_b, oneF_b, fun k _ => rfl⟩, ⟨by decide, rfl, fun i hi => absurd hi (Nat.not_lt_zero _), fun i hi => absurd hi (Nat.not_lt_zero _)⟩, ⟨by decide, rfl, fun i hi => absurd hi (Nat.not_lt_zero _)⟩, .inl rfl, ⟨_, _, .inl ⟨rfl, rfl⟩, rfl, rfl⟩, ⟨_, _, .inl ⟨rfl, rfl⟩, rfl, rfl⟩, ⟨0, ⟨0, nl_zero, Nat.zero_le _, rfl, rfl, fun j hj => absurd hj (Nat.not_lt_zero _)⟩, by decide⟩, ⟨-1, rfl, by decide, by decide, .inl rfl⟩⟩
theorem z0_RR : RR tau0 (c00, [], []) := by
  refine ⟨⟨⟨⟨by decide, by decide, fun k _ => by show 1 ≤ 1 ∧ 1 ≤ 12; omega, fun k _ => by show 1 ≤ 1 ∧ 1 ≤ 12; omega, fun k _ => by show (-1000 : Int) ≤ 0 ∧ (0 : Int) ≤ 1000; omega⟩, rfl, fun k hk => ?_, fun k hk => ?_, fun k _ => rfl, oneF_b, oneF_b, fun k _ => rfl⟩, .inl rfl⟩, ⟨by decide, rfl, fun i hi => absurd hi (Nat.not_lt_zero _), fun i hi => absurd hi (Nat.not_lt_zero _)⟩, ⟨by decide, rfl, fun i hi => absurd hi (Nat.not_lt_zero _)⟩⟩
  · have e : k = 0 := by have hk : k < 1 := hk; omega
    subst e; rfl
  · have e : k = 0 := by have hk : k < 1 := hk; omega
    subst e; rfl
theorem z0_se : seI c00 := fun _ _ _ => rfl
set_option maxRecDepth 100000 in
set_option maxHeartbeats 4000000 in
theorem start_cls {M : xM} {N0 : Nat} {f0 f1 g0 g1 : Nat → Int64} (h0 : M N0 = some (.inr (11, [.ref (N0 + 1), .ref (N0 + 1 + 7), .ref (N0 + 1 + 14), .ref (N0 + 1 + 16), .ref (N0 + 1 + 142), .ref (N0 + 1 + 148), .ref (N0 + 1 + 154), .ref (N0 + 1 + 180), .ref (N0 + 1 + 194), .ref (N0 + 1 + 196), .ref (N0 + 1 + 197), .ref (N0 + 1 + 198), .int (nI 0), .long (-1)]))) (hb : nb M (N0 + 1) (B_X1 (N0 + 1) f0 f1 ++ B_X1 (N0 + 1 + 7) g0 g1 ++ B_X7 (N0 + 1 + 14) ++ B_X4 (N0 + 1 + 16) (N0 + 1) (fun j => some (adC N0 (100 + j))) ++ B_X5 (N0 + 1 + 142) (N0 + 1) (N0 + 1 + 16) ++ B_X5 (N0 + 1 + 148) (N0 + 1) (N0 + 1 + 16) ++ B_X0 (N0 + 1 + 154) ++ B_X6 (N0 + 1 + 180) ++ B_X2 (N0 + 1 + 194) ++ [iaZ 8] ++ [iaZ 8] ++ [iaZ 8])) : ∀ k, cV k → M (cad (adC N0) (sig0 N0 f0 f1 g0 g1) k) = cE (adC N0) (sig0 N0 f0 f1 g0 g1) k := by
  have bC : nb M (N0 + 1 + 198) ([iaZ 8]) := hb.r (by simp only [B_X1_len, B_X7_len, B_X4_len, B_X5_len, B_X0_len, B_X6_len, B_X2_len, List.length_append, List.length_cons, List.length_nil])
  have u11 := hb.l
  have bB : nb M (N0 + 1 + 197) ([iaZ 8]) := u11.r (by simp only [B_X1_len, B_X7_len, B_X4_len, B_X5_len, B_X0_len, B_X6_len, B_X2_len, List.length_append, List.length_cons, List.length_nil])
  have u10 := u11.l
  have bA : nb M (N0 + 1 + 196) ([iaZ 8]) := u10.r (by simp only [B_X1_len, B_X7_len, B_X4_len, B_X5_len, B_X0_len, B_X6_len, B_X2_len, List.length_append, List.length_cons, List.length_nil])
  have u9 := u10.l
  have b9 : nb M (N0 + 1 + 194) (B_X2 (N0 + 1 + 194)) := u9.r (by simp only [B_X1_len, B_X7_len, B_X4_len, B_X5_len, B_X0_len, B_X6_len, B_X2_len, List.length_append, List.length_cons, List.length_nil])
  have u8 := u9.l
  have b8 : nb M (N0 + 1 + 180) (B_X6 (N0 + 1 + 180)) := u8.r (by simp only [B_X1_len, B_X7_len, B_X4_len, B_X5_len, B_X0_len, B_X6_len, B_X2_len, List.length_append, List.length_cons, List.length_nil])
  have u7 := u8.l
  have b7 : nb M (N0 + 1 + 154) (B_X0 (N0 + 1 + 154)) := u7.r (by simp only [B_X1_len, B_X7_len, B_X4_len, B_X5_len, B_X0_len, B_X6_len, B_X2_len, List.length_append, List.length_cons, List.length_nil])
  have u6 := u7.l
  have b6 : nb M (N0 + 1 + 148) (B_X5 (N0 + 1 + 148) (N0 + 1) (N0 + 1 + 16)) := u6.r (by simp only [B_X1_len, B_X7_len, B_X4_len, B_X5_len, B_X0_len, B_X6_len, B_X2_len, List.length_append, List.length_cons, List.length_nil])
  have u5 := u6.l
  have b5 : nb M (N0 + 1 + 142) (B_X5 (N0 + 1 + 142) (N0 + 1) (N0 + 1 + 16)) := u5.r (by simp only [B_X1_len, B_X7_len, B_X4_len, B_X5_len, B_X0_len, B_X6_len, B_X2_len, List.length_append, List.length_cons, List.length_nil])
  have u4 := u5.l
  have b4 : nb M (N0 + 1 + 16) (B_X4 (N0 + 1 + 16) (N0 + 1) (fun j => some (adC N0 (100 + j)))) := u4.r (by simp only [B_X1_len, B_X7_len, B_X4_len, B_X5_len, B_X0_len, B_X6_len, B_X2_len, List.length_append, List.length_cons, List.length_nil])
  have u3 := u4.l
  have b3 : nb M (N0 + 1 + 14) (B_X7 (N0 + 1 + 14)) := u3.r (by simp only [B_X1_len, B_X7_len, B_X4_len, B_X5_len, B_X0_len, B_X6_len, B_X2_len, List.length_append, List.length_cons, List.length_nil])
  have u2 := u3.l
  have b2 : nb M (N0 + 1 + 7) (B_X1 (N0 + 1 + 7) g0 g1) := u2.r (by simp only [B_X1_len, B_X7_len, B_X4_len, B_X5_len, B_X0_len, B_X6_len, B_X2_len, List.length_append, List.length_cons, List.length_nil])
  have b1 := u2.l
  have c4 : nb M (N0 + 1 + 16 + 1) ([iaZ 4, iaZ 6, zaZ 10, zaZ 10, zaZ 4, laZ 100, .inl (.object RX2, 55, .inr (.inr (.inr (.inr (fun j => some (adC N0 (100 + j))))))), .inr (5, [.int 0, .int 0, .ref (N0 + 1 + 16 + 9)]), iaZ 16, .inr (5, [.int 0, .int 0, .ref (N0 + 1 + 16 + 11)]), iaZ 16, .inr (5, [.int 0, .int 0, .ref (N0 + 1 + 16 + 13)]), iaZ 16, .inr (5, [.int 0, .int 0, .ref (N0 + 1 + 16 + 15)]), iaZ 16] ++ bigs (N0 + 1 + 16 + 1) 55) := fun i hi => by
    have := b4 (i + 1) (by rw [B_X4_len]; rw [List.length_append, bigs_len] at hi; have hi : i < 15 + 2 * 55 := hi; omega)
    rw [show N0 + 1 + 16 + 1 + i = N0 + 1 + 16 + (i + 1) by omega, this]; rfl
  have d4 := c4.l
  have e4 : nb M (N0 + 1 + 16 + 1 + 15) (bigs (N0 + 1 + 16 + 1) 55) := c4.r rfl
  have m0 := h0
  simp only [Nat.add_assoc, Nat.reduceAdd] at m0
  have m1 := b1.at 0 rfl
  simp only [Nat.add_assoc, Nat.reduceAdd] at m1
  have m2 := b1.at 1 rfl
  simp only [Nat.add_assoc, Nat.reduceAdd] at m2
  have m3 := b1.at 2 rfl
  simp only [Nat.add_assoc, Nat.reduceAdd] at m3
  have m4 := b1.at 3 rfl
  simp only [Nat.add_assoc, Nat.reduceAdd] at m4
  have m5 := b1.at 4 rfl
  simp only [Nat.add_assoc, Nat.reduceAdd] at m5
  have m6 := b1.at 5 rfl
  simp only [Nat.add_assoc, Nat.reduceAdd] at m6
  have m7 := b1.at 6 rfl
  simp only [Nat.add_assoc, Nat.reduceAdd] at m7
  have m8 := b2.at 0 rfl
  simp only [Nat.add_assoc, Nat.reduceAdd] at m8
  have m9 := b2.at 1 rfl
  simp only [Nat.add_assoc, Nat.reduceAdd] at m9
  have m10 := b2.at 2 rfl
  simp only [Nat.add_assoc, Nat.reduceAdd] at m10
  have m11 := b2.at 3 rfl
  simp only [Nat.add_assoc, Nat.reduceAdd] at m11
  have m12 := b2.at 4 rfl
  simp only [Nat.add_assoc, Nat.reduceAdd] at m12
  have m13 := b2.at 5 rfl
  simp only [Nat.add_assoc, Nat.reduceAdd] at m13
  have m14 := b2.at 6 rfl
  simp only [Nat.add_assoc, Nat.reduceAdd] at m14
  have m15 := b3.at 0 rfl
  simp only [Nat.add_assoc, Nat.reduceAdd] at m15
  have m16 := b3.at 1 rfl
  simp only [Nat.add_assoc, Nat.reduceAdd] at m16
  have m17 := b4.at 0 rfl
  simp only [Nat.add_assoc, Nat.reduceAdd] at m17
  have m18 := d4.at 0 rfl
  simp only [Nat.add_assoc, Nat.reduceAdd] at m18
  have m19 := d4.at 1 rfl
  simp only [Nat.add_assoc, Nat.reduceAdd] at m19
  have m20 := d4.at 2 rfl
  simp only [Nat.add_assoc, Nat.reduceAdd] at m20
  have m21 := d4.at 3 rfl
  simp only [Nat.add_assoc, Nat.reduceAdd] at m21
  have m22 := d4.at 4 rfl
  simp only [Nat.add_assoc, Nat.reduceAdd] at m22
  have m23 := d4.at 5 rfl
  simp only [Nat.add_assoc, Nat.reduceAdd] at m23
  have m24 := d4.at 6 rfl
  simp only [Nat.add_assoc, Nat.reduceAdd] at m24
  have m25 := d4.at 7 rfl
  simp only [Nat.add_assoc, Nat.reduceAdd] at m25
  have m26 := d4.at 8 rfl
  simp only [Nat.add_assoc, Nat.reduceAdd] at m26
  have m27 := d4.at 9 rfl
  simp only [Nat.add_assoc, Nat.reduceAdd] at m27
  have m28 := d4.at 10 rfl
  simp only [Nat.add_assoc, Nat.reduceAdd] at m28
  have m29 := d4.at 11 rfl
  simp only [Nat.add_assoc, Nat.reduceAdd] at m29
  have m30 := d4.at 12 rfl
  simp only [Nat.add_assoc, Nat.reduceAdd] at m30
  have m31 := d4.at 13 rfl
  simp only [Nat.add_assoc, Nat.reduceAdd] at m31
  have m32 := d4.at 14 rfl
  simp only [Nat.add_assoc, Nat.reduceAdd] at m32
  have m143 := b5.at 0 rfl
  simp only [Nat.add_assoc, Nat.reduceAdd] at m143
  have m144 := b5.at 1 rfl
  simp only [Nat.add_assoc, Nat.reduceAdd] at m144
  have m145 := b5.at 2 rfl
  simp only [Nat.add_assoc, Nat.reduceAdd] at m145
  have m146 := b5.at 3 rfl
  simp only [Nat.add_assoc, Nat.reduceAdd] at m146
  have m147 := b5.at 4 rfl
  simp only [Nat.add_assoc, Nat.reduceAdd] at m147
  have m148 := b5.at 5 rfl
  simp only [Nat.add_assoc, Nat.reduceAdd] at m148
  have m149 := b6.at 0 rfl
  simp only [Nat.add_assoc, Nat.reduceAdd] at m149
  have m150 := b6.at 1 rfl
  simp only [Nat.add_assoc, Nat.reduceAdd] at m150
  have m151 := b6.at 2 rfl
  simp only [Nat.add_assoc, Nat.reduceAdd] at m151
  have m152 := b6.at 3 rfl
  simp only [Nat.add_assoc, Nat.reduceAdd] at m152
  have m153 := b6.at 4 rfl
  simp only [Nat.add_assoc, Nat.reduceAdd] at m153
  have m154 := b6.at 5 rfl
  simp only [Nat.add_assoc, Nat.reduceAdd] at m154
  have m155 := b7.at 0 rfl
  simp only [Nat.add_assoc, Nat.reduceAdd] at m155
  have m156 := b7.at 1 rfl
  simp only [Nat.add_assoc, Nat.reduceAdd] at m156
  have m157 := b7.at 2 rfl
  simp only [Nat.add_assoc, Nat.reduceAdd] at m157
  have m158 := b7.at 3 rfl
  simp only [Nat.add_assoc, Nat.reduceAdd] at m158
  have m159 := b7.at 4 rfl
  simp only [Nat.add_assoc, Nat.reduceAdd] at m159
  have m160 := b7.at 5 rfl
  simp only [Nat.add_assoc, Nat.reduceAdd] at m160
  have m161 := b7.at 6 rfl
  simp only [Nat.add_assoc, Nat.reduceAdd] at m161
  have m162 := b7.at 7 rfl
  simp only [Nat.add_assoc, Nat.reduceAdd] at m162
  have m163 := b7.at 8 rfl
  simp only [Nat.add_assoc, Nat.reduceAdd] at m163
  have m164 := b7.at 9 rfl
  simp only [Nat.add_assoc, Nat.reduceAdd] at m164
  have m165 := b7.at 10 rfl
  simp only [Nat.add_assoc, Nat.reduceAdd] at m165
  have m166 := b7.at 11 rfl
  simp only [Nat.add_assoc, Nat.reduceAdd] at m166
  have m167 := b7.at 12 rfl
  simp only [Nat.add_assoc, Nat.reduceAdd] at m167
  have m168 := b7.at 13 rfl
  simp only [Nat.add_assoc, Nat.reduceAdd] at m168
  have m169 := b7.at 14 rfl
  simp only [Nat.add_assoc, Nat.reduceAdd] at m169
  have m170 := b7.at 15 rfl
  simp only [Nat.add_assoc, Nat.reduceAdd] at m170
  have m171 := b7.at 16 rfl
  simp only [Nat.add_assoc, Nat.reduceAdd] at m171
  have m172 := b7.at 17 rfl
  simp only [Nat.add_assoc, Nat.reduceAdd] at m172
  have m173 := b7.at 18 rfl
  simp only [Nat.add_assoc, Nat.reduceAdd] at m173
  have m174 := b7.at 19 rfl
  simp only [Nat.add_assoc, Nat.reduceAdd] at m174
  have m175 := b7.at 20 rfl
  simp only [Nat.add_assoc, Nat.reduceAdd] at m175
  have m176 := b7.at 21 rfl
  simp only [Nat.add_assoc, Nat.reduceAdd] at m176
  have m177 := b7.at 22 rfl
  simp only [Nat.add_assoc, Nat.reduceAdd] at m177
  have m178 := b7.at 23 rfl
  simp only [Nat.add_assoc, Nat.reduceAdd] at m178
  have m179 := b7.at 24 rfl
  simp only [Nat.add_assoc, Nat.reduceAdd] at m179
  have m180 := b7.at 25 rfl
  simp only [Nat.add_assoc, Nat.reduceAdd] at m180
  have m181 := b8.at 0 rfl
  simp only [Nat.add_assoc, Nat.reduceAdd] at m181
  have m182 := b8.at 1 rfl
  simp only [Nat.add_assoc, Nat.reduceAdd] at m182
  have m183 := b8.at 2 rfl
  simp only [Nat.add_assoc, Nat.reduceAdd] at m183
  have m184 := b8.at 3 rfl
  simp only [Nat.add_assoc, Nat.reduceAdd] at m184
  have m185 := b8.at 4 rfl
  simp only [Nat.add_assoc, Nat.reduceAdd] at m185
  have m186 := b8.at 5 rfl
  simp only [Nat.add_assoc, Nat.reduceAdd] at m186
  have m187 := b8.at 6 rfl
  simp only [Nat.add_assoc, Nat.reduceAdd] at m187
  have m188 := b8.at 7 rfl
  simp only [Nat.add_assoc, Nat.reduceAdd] at m188
  have m189 := b8.at 8 rfl
  simp only [Nat.add_assoc, Nat.reduceAdd] at m189
  have m190 := b8.at 9 rfl
  simp only [Nat.add_assoc, Nat.reduceAdd] at m190
  have m191 := b8.at 10 rfl
  simp only [Nat.add_assoc, Nat.reduceAdd] at m191
  have m192 := b8.at 11 rfl
  simp only [Nat.add_assoc, Nat.reduceAdd] at m192
  have m193 := b8.at 12 rfl
  simp only [Nat.add_assoc, Nat.reduceAdd] at m193
  have m194 := b8.at 13 rfl
  simp only [Nat.add_assoc, Nat.reduceAdd] at m194
  have m195 := b9.at 0 rfl
  simp only [Nat.add_assoc, Nat.reduceAdd] at m195
  have m196 := b9.at 1 rfl
  simp only [Nat.add_assoc, Nat.reduceAdd] at m196
  have m197 := bA.at 0 rfl
  simp only [Nat.add_assoc, Nat.reduceAdd] at m197
  have m198 := bB.at 0 rfl
  simp only [Nat.add_assoc, Nat.reduceAdd] at m198
  have m199 := bC.at 0 rfl
  simp only [Nat.add_assoc, Nat.reduceAdd] at m199
  have mb : ∀ k, k < 55 → M (N0 + (33 + 2 * k)) = some (bgZ (N0 + (34 + 2 * k))) ∧ M (N0 + (34 + 2 * k)) = some (iaZ 16) := fun k hk => by
    obtain ⟨q1, q2⟩ := bigs_at (N0 + 1 + 16 + 1) 55 k hk
    have r1 := e4.at (2 * k) q1
    have r2 := e4.at (2 * k + 1) q2
    rw [show N0 + 1 + 16 + 1 + 15 + 2 * k = N0 + (33 + 2 * k) by omega, show N0 + (33 + 2 * k) + 1 = N0 + (34 + 2 * k) by omega] at r1
    rw [show N0 + 1 + 16 + 1 + 15 + (2 * k + 1) = N0 + (34 + 2 * k) by omega] at r2
    exact ⟨r1, r2⟩
  clear hb b1 b2 b3 b4 b5 b6 b7 b8 b9 bA bB bC c4 d4 e4 u11 u10 u9 u8 u7 u6 u5 u4 u3 u2
  have lo : ∀ k, k < 40 → M (cad (adC N0) (sig0 N0 f0 f1 g0 g1) k) = cE (adC N0) (sig0 N0 f0 f1 g0 g1) k := allLt _ 40 ⟨⟨⟨⟨⟨⟨⟨⟨⟨⟨⟨⟨⟨⟨⟨⟨⟨⟨⟨⟨⟨⟨⟨⟨⟨⟨⟨⟨⟨⟨⟨⟨⟨⟨⟨⟨⟨⟨⟨⟨trivial, m0⟩, m1⟩, m8⟩, m15⟩, m17⟩, m143⟩, m149⟩, m155⟩, m181⟩, m156⟩, m186⟩, m197⟩, m198⟩, m199⟩, m2⟩, m3⟩, m4⟩, m5⟩, m6⟩, m7⟩, m9⟩, m10⟩, m11⟩, m12⟩, m13⟩, m14⟩, m16⟩, m18⟩, m19⟩, m20⟩, m21⟩, m22⟩, m23⟩, m24⟩, m144⟩, m145⟩, m146⟩, m150⟩, m151⟩, m152⟩
  have bg : ∀ k, k < 25 → M (cad (adC N0) (sig0 N0 f0 f1 g0 g1) (155 + k)) = cE (adC N0) (sig0 N0 f0 f1 g0 g1) (155 + k) := allLt (fun k => M (cad (adC N0) (sig0 N0 f0 f1 g0 g1) (155 + k)) = cE (adC N0) (sig0 N0 f0 f1 g0 g1) (155 + k)) 25 ⟨⟨⟨⟨⟨⟨⟨⟨⟨⟨⟨⟨⟨⟨⟨⟨⟨⟨⟨⟨⟨⟨⟨⟨⟨trivial, m25⟩, m27⟩, m29⟩, m31⟩, m195⟩, m147⟩, m153⟩, m163⟩, m165⟩, m167⟩, m169⟩, m171⟩, m173⟩, m175⟩, m177⟩, m179⟩, m182⟩, m184⟩, m193⟩, m157⟩, m159⟩, m161⟩, m187⟩, m189⟩, m191⟩
  have lb : ∀ k, k < 25 → M (cad (adC N0) (sig0 N0 f0 f1 g0 g1) (255 + k)) = cE (adC N0) (sig0 N0 f0 f1 g0 g1) (255 + k) := allLt (fun k => M (cad (adC N0) (sig0 N0 f0 f1 g0 g1) (255 + k)) = cE (adC N0) (sig0 N0 f0 f1 g0 g1) (255 + k)) 25 ⟨⟨⟨⟨⟨⟨⟨⟨⟨⟨⟨⟨⟨⟨⟨⟨⟨⟨⟨⟨⟨⟨⟨⟨⟨trivial, m26⟩, m28⟩, m30⟩, m32⟩, m196⟩, m148⟩, m154⟩, m164⟩, m166⟩, m168⟩, m170⟩, m172⟩, m174⟩, m176⟩, m178⟩, m180⟩, m183⟩, m185⟩, m194⟩, m158⟩, m160⟩, m162⟩, m188⟩, m190⟩, m192⟩
  intro k hk
  rcases hk with hk | hk | hk
  · exact lo k hk
  · by_cases e : k < 155
    · obtain ⟨j, rfl⟩ : ∃ j, k = 100 + j := ⟨k - 100, by omega⟩
      obtain ⟨o1, o2⟩ := off_big j (by omega)
      rw [cad_lo (by omega), cE_big _ _ ⟨hk.1, hk.2⟩]
      show M (N0 + offC (100 + j)) = some (.inr (5, [.int (i0 (100 + j) 0), .int (i0 (100 + j) 1), .ref (p0 N0 (100 + j) 0)]))
      have z : i0 (100 + j) = fun _ => 0 := by unfold i0; rw [if_neg (by omega), if_neg (by omega)]
      have w : p0 N0 (100 + j) 0 = N0 + offC (200 + j) := by unfold p0; rw [if_pos (by omega), if_pos rfl, show 100 + j + 100 = 200 + j by omega]
      rw [z, w, o1, o2]
      exact (mb j (by omega)).1
    · obtain ⟨j, rfl⟩ : ∃ j, k = 155 + j := ⟨k - 155, by omega⟩
      exact bg j (by omega)
  · by_cases e : k < 255
    · obtain ⟨j, rfl⟩ : ∃ j, k = 200 + j := ⟨k - 200, by omega⟩
      obtain ⟨o1, o2⟩ := off_big j (by omega)
      rw [show 200 + j = (100 + j) + 100 by omega, cad_limb ⟨by omega, by omega⟩, cE_limb _ _ ⟨by omega, by omega⟩]
      show M (p0 N0 (100 + j) 0) = some (.inl (.int, p0 N0 (100 + j) 1, .inl (i0 (100 + j + 100))))
      have z : i0 (100 + j + 100) = fun _ => 0 := by unfold i0; rw [if_neg (by omega), if_neg (by omega)]
      have w : p0 N0 (100 + j) 0 = N0 + offC (200 + j) := by unfold p0; rw [if_pos (by omega), if_pos rfl, show 100 + j + 100 = 200 + j by omega]
      have w1 : p0 N0 (100 + j) 1 = 16 := by unfold p0; rw [if_pos (by omega), if_neg (by decide)]
      rw [z, w, w1, o2]
      exact (mb j (by omega)).2
    · obtain ⟨j, rfl⟩ : ∃ j, k = 255 + j := ⟨k - 255, by omega⟩
      exact lb j (by omega)
theorem cad0 {N0 : Nat} {f0 f1 g0 g1 : Nat → Int64} {k : Nat} (hk : cV k) : cad (adC N0) (sig0 N0 f0 f1 g0 g1) k = N0 + offC k := by
  by_cases h : k < 200
  · exact cad_lo h
  · unfold cad
    rw [if_neg h]
    show p0 N0 (k - 100) 0 = _
    unfold p0
    have hk2 : 200 ≤ k ∧ k < 280 := by rcases hk with h1 | h1 | h1 <;> omega
    rw [if_pos (by omega), if_pos rfl, show k - 100 + 100 = k by omega]
theorem cV_lt {k : Nat} (hk : cV k) : k < 280 := by rcases hk with h1 | h1 | h1 <;> omega
set_option maxRecDepth 100000 in
set_option maxHeartbeats 4000000 in
theorem start_ref {M : xM} {N0 : Nat} (h0 : M (N0 + 1 + 199) = some (.inr (12, [.int 0, .ref (N0 + 1 + 199 + 1), .int 0, .int (nI 1), .ref (N0 + 1 + 199 + 1 + 1), .ref (N0 + 1 + 199 + 1 + 2), .ref (N0 + 1 + 199 + 1 + 3), .ref (N0 + 1 + 199 + 1 + 4), .ref (N0 + 1 + 199 + 1 + 5), .ref (N0 + 1 + 199 + 1 + 6), .int 0, .ref (N0 + 1 + 199 + 1 + 7), .ref (N0 + 1 + 199 + 1 + 8), .ref (N0 + 1 + 199 + 1 + 9), .ref (N0 + 1 + 199 + 1 + 10), .ref (N0 + 1 + 199 + 1 + 11), .ref (N0 + 1 + 199 + 1 + 12), .ref (N0 + 1 + 199 + 1 + 13), .ref (N0 + 1 + 199 + 1 + 14), .ref (N0 + 1 + 199 + 1 + 15), .ref (N0 + 1 + 199 + 1 + 16), .int 0, .int 0, .int 0, .ref (N0 + 1 + 199 + 1 + 17), .int 0, .ref (N0 + 1 + 199 + 1 + 18), .int 0, .ref (N0 + 1 + 199 + 1 + 19), .int 0, .int 0, .ref (N0 + 1 + 199 + 1 + 20), .ref (N0 + 1 + 199 + 1 + 21), .ref (N0 + 1 + 199 + 1 + 22), .ref (N0 + 1 + 199 + 1 + 23), .ref (N0 + 1 + 199 + 1 + 24), .ref (N0 + 1 + 199 + 1 + 25), .ref (N0 + 1 + 199 + 1 + 26)]))) (hb : nb M (N0 + 1 + 199 + 1) [iaZ 50, .inl (.int, 3, .inl oneI), .inl (.int, 3, .inl oneI), zaZ 6, .inl (.boolean, 4, .inl oneF), .inl (.boolean, 4, .inl oneF), iaZ 4, iaZ 8, iaZ 8, iaZ 8, iaZ 6400, iaZ 16, iaZ 16, iaZ 8064, iaZ 336, iaZ 336, laZ 336, laZ 120, laZ 126, iaZ 4, iaZ 4, iaZ 3, iaZ 3, zaZ 6, iaZ 360, iaZ 15, iaZ 15]) : mAt (N0 + 200) (asC N0) tau0 M M := by
  have r0 := h0
  simp only [Nat.add_assoc, Nat.reduceAdd] at r0
  have r1 := hb.at 0 rfl
  simp only [Nat.add_assoc, Nat.reduceAdd] at r1
  have r2 := hb.at 1 rfl
  simp only [Nat.add_assoc, Nat.reduceAdd] at r2
  have r3 := hb.at 2 rfl
  simp only [Nat.add_assoc, Nat.reduceAdd] at r3
  have r4 := hb.at 3 rfl
  simp only [Nat.add_assoc, Nat.reduceAdd] at r4
  have r5 := hb.at 4 rfl
  simp only [Nat.add_assoc, Nat.reduceAdd] at r5
  have r6 := hb.at 5 rfl
  simp only [Nat.add_assoc, Nat.reduceAdd] at r6
  have r7 := hb.at 6 rfl
  simp only [Nat.add_assoc, Nat.reduceAdd] at r7
  have r8 := hb.at 7 rfl
  simp only [Nat.add_assoc, Nat.reduceAdd] at r8
  have r9 := hb.at 8 rfl
  simp only [Nat.add_assoc, Nat.reduceAdd] at r9
  have r10 := hb.at 9 rfl
  simp only [Nat.add_assoc, Nat.reduceAdd] at r10
  have r11 := hb.at 10 rfl
  simp only [Nat.add_assoc, Nat.reduceAdd] at r11
  have r12 := hb.at 11 rfl
  simp only [Nat.add_assoc, Nat.reduceAdd] at r12
  have r13 := hb.at 12 rfl
  simp only [Nat.add_assoc, Nat.reduceAdd] at r13
  have r14 := hb.at 13 rfl
  simp only [Nat.add_assoc, Nat.reduceAdd] at r14
  have r15 := hb.at 14 rfl
  simp only [Nat.add_assoc, Nat.reduceAdd] at r15
  have r16 := hb.at 15 rfl
  simp only [Nat.add_assoc, Nat.reduceAdd] at r16
  have r17 := hb.at 16 rfl
  simp only [Nat.add_assoc, Nat.reduceAdd] at r17
  have r18 := hb.at 17 rfl
  simp only [Nat.add_assoc, Nat.reduceAdd] at r18
  have r19 := hb.at 18 rfl
  simp only [Nat.add_assoc, Nat.reduceAdd] at r19
  have r20 := hb.at 19 rfl
  simp only [Nat.add_assoc, Nat.reduceAdd] at r20
  have r21 := hb.at 20 rfl
  simp only [Nat.add_assoc, Nat.reduceAdd] at r21
  have r22 := hb.at 21 rfl
  simp only [Nat.add_assoc, Nat.reduceAdd] at r22
  have r23 := hb.at 22 rfl
  simp only [Nat.add_assoc, Nat.reduceAdd] at r23
  have r24 := hb.at 23 rfl
  simp only [Nat.add_assoc, Nat.reduceAdd] at r24
  have r25 := hb.at 24 rfl
  simp only [Nat.add_assoc, Nat.reduceAdd] at r25
  have r26 := hb.at 25 rfl
  simp only [Nat.add_assoc, Nat.reduceAdd] at r26
  have r27 := hb.at 26 rfl
  simp only [Nat.add_assoc, Nat.reduceAdd] at r27
  refine ⟨⟨fun j k hj hk e => as_ok.1 j hj k hk (by unfold asC at e; omega), fun k hk e => by have := (as_ok.2 k hk).1; unfold asC at e; omega⟩, r0, ?_, ?_, ?_, fun _ _ _ => rfl⟩
  · have h : ∀ q ∈ mInts, M (asC N0 q.1) = some (.inl (.int, q.2, .inl (tau0.2.1 q.1))) := List.forall_mem_cons.mpr ⟨r1, List.forall_mem_cons.mpr ⟨r2, List.forall_mem_cons.mpr ⟨r3, List.forall_mem_cons.mpr ⟨r7, List.forall_mem_cons.mpr ⟨r8, List.forall_mem_cons.mpr ⟨r9, List.forall_mem_cons.mpr ⟨r10, List.forall_mem_cons.mpr ⟨r11, List.forall_mem_cons.mpr ⟨r12, List.forall_mem_cons.mpr ⟨r13, List.forall_mem_cons.mpr ⟨r14, List.forall_mem_cons.mpr ⟨r15, List.forall_mem_cons.mpr ⟨r16, List.forall_mem_cons.mpr ⟨r20, List.forall_mem_cons.mpr ⟨r21, List.forall_mem_cons.mpr ⟨r22, List.forall_mem_cons.mpr ⟨r23, List.forall_mem_cons.mpr ⟨r25, List.forall_mem_cons.mpr ⟨r26, List.forall_mem_cons.mpr ⟨r27, fun _ h => absurd h List.not_mem_nil⟩⟩⟩⟩⟩⟩⟩⟩⟩⟩⟩⟩⟩⟩⟩⟩⟩⟩⟩⟩
    exact fun k n hk => h (k, n) hk
  · have h : ∀ q ∈ mBools, M (asC N0 q.1) = some (.inl (.boolean, q.2, .inl (tau0.2.1 q.1))) := List.forall_mem_cons.mpr ⟨r4, List.forall_mem_cons.mpr ⟨r5, List.forall_mem_cons.mpr ⟨r6, List.forall_mem_cons.mpr ⟨r24, fun _ h => absurd h List.not_mem_nil⟩⟩⟩⟩
    exact fun k n hk => h (k, n) hk
  · have h : ∀ q ∈ mLongs, M (asC N0 q.1) = some (.inl (.long, q.2, .inr (.inl (tau0.2.2 q.1)))) := List.forall_mem_cons.mpr ⟨r17, List.forall_mem_cons.mpr ⟨r18, List.forall_mem_cons.mpr ⟨r19, fun _ h => absurd h List.not_mem_nil⟩⟩⟩
    exact fun k n hk => h (k, n) hk
/-- both, side by side -/
theorem start_LJ {G : xG} {M : xM} {N0 : Nat} {f0 f1 g0 g1 : Nat → Int64} (h0 : ∀ j, j < 3 → f0 j = lN 1) (h1 : ∀ j, j < 3 → f1 j = lN 1) (hc : ∀ k, cV k → M (cad (adC N0) (sig0 N0 f0 f1 g0 g1) k) = cE (adC N0) (sig0 N0 f0 f1 g0 g1) k) (hm : mAt (N0 + 200) (asC N0) tau0 M M) (ho : M (N0 + 228) = some (.inl (.long, 1, .inr (.inl (fun _ => 0))))) {N S : Nat} (hG1 : N + 163840 ≤ G.2.2.2.2.1) (hG2 : S + 327680 ≤ G.2.2.2.2.2) : LJ G (adC N0) (N0 + 200) (N0 + 228) (asC N0) (N, S) (c00, [], []) M N S := by
  refine ⟨sig0 N0 f0 f1 g0 g1, tau0, fun _ => 0, ⟨⟨fun k e hk => by rw [hc k (cE_v hk)]; exact hk, fun j k hj hk e => ?_, fun a e ha => ?_, fun b hb => ?_, ⟨by show N ≤ N + _; omega, by show S ≤ S + _; omega⟩, hG1, hG2⟩, hm, ho, by omega, fun k hk e => ?_⟩, z0_CZ h0 h1, z0_RR, z0_se⟩
  · rw [cad0 hj, cad0 hk] at e
    have e1 := (inv_off j (cV_lt hj) hj).1
    have e2 := (inv_off k (cV_lt hk) hk).1
    rw [← e1, ← e2, show offC j = offC k by omega]
  · unfold rsF at ha
    by_cases hb : rfB (N0 + 200) (N0 + 228) (asC N0) a = true
    · rw [if_pos hb] at ha
      refine ⟨ha, fun k hk ek => ?_⟩
      rw [cad0 hk] at ek
      have := (inv_off k (cV_lt hk) hk).2
      rcases rfB_c hb with e1 | e1 | ⟨j, hj, e1⟩
      · omega
      · omega
      · have h3 := (as_ok.2 j hj).1
        unfold asC at e1
        omega
    · rw [if_neg hb] at ha; cases ha
  · show 16 ≤ p0 N0 b 1 ∧ p0 N0 b 1 ≤ 2048
    have w1 : p0 N0 b 1 = 16 := by unfold p0; rw [if_pos hb.1, if_neg (by decide)]
    omega
  · have h3 := (as_ok.2 k hk).2
    unfold asC at e
    omega
set_option maxRecDepth 100000 in
set_option maxHeartbeats 4000000 in
theorem app_set {X A T : List xE} {v : xE} {i : Nat} (hX : X.length = 16) (hA : A.length = 126) (hi : i ≠ 23) : (X ++ A ++ T)[i]? = (X ++ A.set 7 v ++ T)[i]? := by
  rw [List.append_assoc, List.append_assoc]
  by_cases h : i < 16
  · rw [List.getElem?_append_left (show i < X.length by omega), List.getElem?_append_left (show i < X.length by omega)]
  · rw [List.getElem?_append_right (show X.length ≤ i by omega), List.getElem?_append_right (show X.length ≤ i by omega), hX]
    by_cases h2 : i - 16 < 126
    · rw [List.getElem?_append_left (show i - 16 < A.length by omega), List.getElem?_append_left (show i - 16 < (A.set 7 v).length by rw [List.length_set]; omega), List.getElem?_set_ne (by omega)]
    · rw [List.getElem?_append_right (show A.length ≤ i - 16 by omega), List.getElem?_append_right (show (A.set 7 v).length ≤ i - 16 by rw [List.length_set]; omega), List.length_set]
theorem fr_same {N0 i : Nat} {f0 f1 g0 g1 : Nat → Int64} {f : Nat → Option Nat} (hi : i ≠ 23) : (B_X1 (N0 + 1) f0 f1 ++ B_X1 (N0 + 1 + 7) g0 g1 ++ B_X7 (N0 + 1 + 14) ++ B_X4 (N0 + 1 + 16) (N0 + 1) f ++ B_X5 (N0 + 1 + 142) (N0 + 1) (N0 + 1 + 16) ++ B_X5 (N0 + 1 + 148) (N0 + 1) (N0 + 1 + 16) ++ B_X0 (N0 + 1 + 154) ++ B_X6 (N0 + 1 + 180) ++ B_X2 (N0 + 1 + 194) ++ [iaZ 8] ++ [iaZ 8] ++ [iaZ 8])[i]? = (B_X1 (N0 + 1) f0 f1 ++ B_X1 (N0 + 1 + 7) g0 g1 ++ B_X7 (N0 + 1 + 14) ++ B_X4 (N0 + 1 + 16) (N0 + 1) (fun j => some (adC N0 (100 + j))) ++ B_X5 (N0 + 1 + 142) (N0 + 1) (N0 + 1 + 16) ++ B_X5 (N0 + 1 + 148) (N0 + 1) (N0 + 1 + 16) ++ B_X0 (N0 + 1 + 154) ++ B_X6 (N0 + 1 + 180) ++ B_X2 (N0 + 1 + 194) ++ [iaZ 8] ++ [iaZ 8] ++ [iaZ 8])[i]? := by
  have e : B_X4 (N0 + 1 + 16) (N0 + 1) (fun j => some (adC N0 (100 + j))) = (B_X4 (N0 + 1 + 16) (N0 + 1) f).set 7 (.inl (.object RX2, 55, .inr (.inr (.inr (.inr (fun j => some (adC N0 (100 + j)))))))) := rfl
  have h16 : (B_X1 (N0 + 1) f0 f1 ++ B_X1 (N0 + 1 + 7) g0 g1 ++ B_X7 (N0 + 1 + 14)).length = 16 := by simp only [B_X1_len, B_X7_len, B_X4_len, B_X5_len, B_X0_len, B_X6_len, B_X2_len, List.length_append, List.length_cons, List.length_nil]
  have key := app_set (X := B_X1 (N0 + 1) f0 f1 ++ B_X1 (N0 + 1 + 7) g0 g1 ++ B_X7 (N0 + 1 + 14)) (A := B_X4 (N0 + 1 + 16) (N0 + 1) f) (T := B_X5 (N0 + 1 + 142) (N0 + 1) (N0 + 1 + 16) ++ (B_X5 (N0 + 1 + 148) (N0 + 1) (N0 + 1 + 16) ++ (B_X0 (N0 + 1 + 154) ++ (B_X6 (N0 + 1 + 180) ++ (B_X2 (N0 + 1 + 194) ++ ([iaZ 8] ++ ([iaZ 8] ++ [iaZ 8]))))))) (v := .inl (.object RX2, 55, .inr (.inr (.inr (.inr (fun j => some (adC N0 (100 + j)))))))) h16 (B_X4_len _ _ _) hi
  rw [← e] at key
  simp only [List.append_assoc] at key ⊢
  exact key
set_option maxRecDepth 100000 in
set_option maxHeartbeats 4000000 in
theorem law_all {G : xG} {l : Launch} {b L N0 S0 : Nat} {ys : Nat → Int} (hlt : l.stackTraces = false) (hs : rArr G "SCRIPT" b L (fun j => iI (ys j))) (hL : L ≤ 3584) (hy : ∀ j, -2147483648 ≤ ys j ∧ ys j < 2147483648) (hN : N0 + 600000 ≤ G.2.2.2.2.1) (hS : S0 + 400000 ≤ G.2.2.2.2.2) : xX G l YL_law 21 lQ 0 [(0, .ref b)] [] (fun _ => none) N0 S0 := by
  refine x_new (q := 3) (fs := [.null, .null, .null, .null, .null, .null, .null, .null, .null, .null, .null, .null, .int 0, .long 0]) xclX8 nwL_8 in1X8 in2X8 (fun j hj => by rcases (by omega : j = 0 ∨ j = 1 ∨ j = 2 ∨ j = 3 ∨ j = 4 ∨ j = 5 ∨ j = 6 ∨ j = 7 ∨ j = 8 ∨ j = 9 ∨ j = 10 ∨ j = 11 ∨ j = 12 ∨ j = 13) with rfl | rfl | rfl | rfl | rfl | rfl | rfl | rfl | rfl | rfl | rfl | rfl | rfl | rfl <;> rfl) dL_law_0 rfl (by omega) (by omega) (fun _ => ?_)
  refine x_dup (q := 4) dL_law_3 rfl rfl ?_
  refine x_callI (q := 7) (b := N0) (As := []) imX8_init rfl rfl ivX8_init mwL_22 dL_law_4 rfl rfl rfl (Nat.le_of_ble_eq_true rfl) ?_
  refine (k_X8 G l 16 (xup (fun _ => none) N0 (.inr (11, [.null, .null, .null, .null, .null, .null, .null, .null, .null, .null, .null, .null, .int 0, .long 0]))) (N0 + 1) (S0 + 14) N0 (xup_s _ _ _) (by omega) (by omega) (by omega)).mono (fun r9 M8 N9 S9 hp => ?_)
  obtain ⟨rfl, rfl, rfl, f0, f1, g0, g1, f, h0, h1, -, -, hf, hk8⟩ := hp
  refine x_astore_n (q := 8) (ls' := [(0, _), (1, _)]) [1, 0] dL_law_7 rfl (by decide) rfl ?_
  refine x_new (q := 11) (fs := [.int 0, .null, .int 0, .int 0, .null, .null, .null, .null, .null, .null, .int 0, .null, .null, .null, .null, .null, .null, .null, .null, .null, .null, .int 0, .int 0, .int 0, .null, .int 0, .null, .int 0, .null, .int 0, .int 0, .null, .null, .null, .null, .null, .null, .null]) xclX9 nwL_23 in1X9 in2X9 (fun j hj => by rcases (by omega : j = 0 ∨ j = 1 ∨ j = 2 ∨ j = 3 ∨ j = 4 ∨ j = 5 ∨ j = 6 ∨ j = 7 ∨ j = 8 ∨ j = 9 ∨ j = 10 ∨ j = 11 ∨ j = 12 ∨ j = 13 ∨ j = 14 ∨ j = 15 ∨ j = 16 ∨ j = 17 ∨ j = 18 ∨ j = 19 ∨ j = 20 ∨ j = 21 ∨ j = 22 ∨ j = 23 ∨ j = 24 ∨ j = 25 ∨ j = 26 ∨ j = 27 ∨ j = 28 ∨ j = 29 ∨ j = 30 ∨ j = 31 ∨ j = 32 ∨ j = 33 ∨ j = 34 ∨ j = 35 ∨ j = 36 ∨ j = 37) with rfl | rfl | rfl | rfl | rfl | rfl | rfl | rfl | rfl | rfl | rfl | rfl | rfl | rfl | rfl | rfl | rfl | rfl | rfl | rfl | rfl | rfl | rfl | rfl | rfl | rfl | rfl | rfl | rfl | rfl | rfl | rfl | rfl | rfl | rfl | rfl | rfl | rfl <;> rfl) dL_law_8 rfl (by omega) (by omega) (fun _ => ?_)
  refine x_dup (q := 12) dL_law_11 rfl rfl ?_
  refine x_callI (q := 15) (b := N0 + 1 + 199) (As := []) imX9_init rfl rfl ivX9_init mwL_25 dL_law_12 rfl rfl rfl (Nat.le_of_ble_eq_true rfl) ?_
  refine (k_X9 G l 19 (xup M8 (N0 + 1 + 199) (.inr (12, [.int 0, .null, .int 0, .int 0, .null, .null, .null, .null, .null, .null, .int 0, .null, .null, .null, .null, .null, .null, .null, .null, .null, .null, .int 0, .int 0, .int 0, .null, .int 0, .null, .int 0, .null, .int 0, .int 0, .null, .null, .null, .null, .null, .null, .null]))) (N0 + 1 + 199 + 1) (S0 + 14 + 1956 + 38) (N0 + 1 + 199) (xup_s _ _ _) (by omega) (by omega) (by omega)).mono (fun r9 M9 N9 S9 hp => ?_)
  obtain ⟨rfl, rfl, rfl, hk9⟩ := hp
  refine x_astore_n (q := 16) (ls' := [(0, _), (1, _), (2, _)]) [1, 2, 0] dL_law_15 rfl (by decide) rfl ?_
  refine xn_iconst (q := 17) 1 dL_law_16 rfl (by decide) ?_
  refine x_newa (q := 19) (at0 := .long) (ty := .long) (n := 1) (a0 := (1, .inr (.inl (fun _ => 0)))) 1 rfl rfl (fun C h => by cases h) ac_long (fun cA => rfl) (by decide) (by decide) (by decide) dL_law_17 rfl (by omega) (by omega) (fun _ => ?_)
  refine x_astore_n (q := 20) (ls' := [(0, _), (1, _), (2, _), (3, _)]) [1, 2, 3, 0] dL_law_19 rfl (by decide) rfl ?_
  refine xn_iconst (q := 21) 0 dL_law_20 rfl (by decide) ?_
  refine x_istore (q := 23) (ls' := [(0, _), (1, _), (2, _), (3, _), (4, _)]) [1, 2, 3, 4, 0] dL_law_21 rfl (by decide) rfl ?_
  have old8 : ∀ c, c < N0 + 1 + 199 → M9 c = M8 c := fun c hc => by rw [hk9.2.1 c (by omega) (by omega), xup_n (by omega)]
  have o8 : M9 N0 = M8 N0 := old8 _ (by omega)
  have n8 : nb M9 (N0 + 1) (B_X1 (N0 + 1) f0 f1 ++ B_X1 (N0 + 1 + 7) g0 g1 ++ B_X7 (N0 + 1 + 14) ++ B_X4 (N0 + 1 + 16) (N0 + 1) f ++ B_X5 (N0 + 1 + 142) (N0 + 1) (N0 + 1 + 16) ++ B_X5 (N0 + 1 + 148) (N0 + 1) (N0 + 1 + 16) ++ B_X0 (N0 + 1 + 154) ++ B_X6 (N0 + 1 + 180) ++ B_X2 (N0 + 1 + 194) ++ [iaZ 8] ++ [iaZ 8] ++ [iaZ 8]) := fun i hi => by
    have hl : (B_X1 (N0 + 1) f0 f1 ++ B_X1 (N0 + 1 + 7) g0 g1 ++ B_X7 (N0 + 1 + 14) ++ B_X4 (N0 + 1 + 16) (N0 + 1) f ++ B_X5 (N0 + 1 + 142) (N0 + 1) (N0 + 1 + 16) ++ B_X5 (N0 + 1 + 148) (N0 + 1) (N0 + 1 + 16) ++ B_X0 (N0 + 1 + 154) ++ B_X6 (N0 + 1 + 180) ++ B_X2 (N0 + 1 + 194) ++ [iaZ 8] ++ [iaZ 8] ++ [iaZ 8]).length = 199 := by simp only [B_X1_len, B_X7_len, B_X4_len, B_X5_len, B_X0_len, B_X6_len, B_X2_len, List.length_append, List.length_cons, List.length_nil]
    rw [old8 _ (by omega)]; exact hk8.2.2 i hi
  have c33 : M9 (N0 + 24) = some (.inl (.object RX2, 55, .inr (.inr (.inr (.inr f))))) := by
    have u := n8.l.l.l.l.l.l.l.l.r (n := 16) (by simp only [B_X1_len, B_X7_len, B_X4_len, B_X5_len, B_X0_len, B_X6_len, B_X2_len, List.length_append, List.length_cons, List.length_nil])
    have := u.at 7 rfl
    simp only [Nat.add_assoc, Nat.reduceAdd] at this
    exact this
  refine x_fun (a := N0 + 24) (n := 55) (f := f) (g := fun j => some (adC N0 (100 + j))) ((xup_n (by omega)).trans c33) (fun j hj => by rw [hf j hj]; show _ = some (N0 + offC (100 + j)); rw [(off_big j hj).1]; congr 1; omega) ?_
  generalize hM : xup (xup M9 (N0 + 1 + 199 + 1 + 27) _) (N0 + 24) _ = M
  have k8 : nb M (N0 + 1) (B_X1 (N0 + 1) f0 f1 ++ B_X1 (N0 + 1 + 7) g0 g1 ++ B_X7 (N0 + 1 + 14) ++ B_X4 (N0 + 1 + 16) (N0 + 1) (fun j => some (adC N0 (100 + j))) ++ B_X5 (N0 + 1 + 142) (N0 + 1) (N0 + 1 + 16) ++ B_X5 (N0 + 1 + 148) (N0 + 1) (N0 + 1 + 16) ++ B_X0 (N0 + 1 + 154) ++ B_X6 (N0 + 1 + 180) ++ B_X2 (N0 + 1 + 194) ++ [iaZ 8] ++ [iaZ 8] ++ [iaZ 8]) := fun i hi => by
    have hl : (B_X1 (N0 + 1) f0 f1 ++ B_X1 (N0 + 1 + 7) g0 g1 ++ B_X7 (N0 + 1 + 14) ++ B_X4 (N0 + 1 + 16) (N0 + 1) (fun j => some (adC N0 (100 + j))) ++ B_X5 (N0 + 1 + 142) (N0 + 1) (N0 + 1 + 16) ++ B_X5 (N0 + 1 + 148) (N0 + 1) (N0 + 1 + 16) ++ B_X0 (N0 + 1 + 154) ++ B_X6 (N0 + 1 + 180) ++ B_X2 (N0 + 1 + 194) ++ [iaZ 8] ++ [iaZ 8] ++ [iaZ 8]).length = 199 := by simp only [B_X1_len, B_X7_len, B_X4_len, B_X5_len, B_X0_len, B_X6_len, B_X2_len, List.length_append, List.length_cons, List.length_nil]
    rw [← hM]
    by_cases e : i = 23
    · subst e
      rw [show N0 + 1 + 23 = N0 + 24 by omega, xup_s]
      rw [List.getElem?_append_left (by simp only [B_X1_len, B_X7_len, B_X4_len, B_X5_len, B_X0_len, B_X6_len, B_X2_len, List.length_append, List.length_cons, List.length_nil]; omega), List.getElem?_append_left (by simp only [B_X1_len, B_X7_len, B_X4_len, B_X5_len, B_X0_len, B_X6_len, B_X2_len, List.length_append, List.length_cons, List.length_nil]; omega), List.getElem?_append_left (by simp only [B_X1_len, B_X7_len, B_X4_len, B_X5_len, B_X0_len, B_X6_len, B_X2_len, List.length_append, List.length_cons, List.length_nil]; omega), List.getElem?_append_left (by simp only [B_X1_len, B_X7_len, B_X4_len, B_X5_len, B_X0_len, B_X6_len, B_X2_len, List.length_append, List.length_cons, List.length_nil]; omega), List.getElem?_append_left (by simp only [B_X1_len, B_X7_len, B_X4_len, B_X5_len, B_X0_len, B_X6_len, B_X2_len, List.length_append, List.length_cons, List.length_nil]; omega), List.getElem?_append_left (by simp only [B_X1_len, B_X7_len, B_X4_len, B_X5_len, B_X0_len, B_X6_len, B_X2_len, List.length_append, List.length_cons, List.length_nil]; omega), List.getElem?_append_left (by simp only [B_X1_len, B_X7_len, B_X4_len, B_X5_len, B_X0_len, B_X6_len, B_X2_len, List.length_append, List.length_cons, List.length_nil]; omega), List.getElem?_append_left (by simp only [B_X1_len, B_X7_len, B_X4_len, B_X5_len, B_X0_len, B_X6_len, B_X2_len, List.length_append, List.length_cons, List.length_nil]; omega), List.getElem?_append_right (by simp only [B_X1_len, B_X7_len, B_X4_len, B_X5_len, B_X0_len, B_X6_len, B_X2_len, List.length_append, List.length_cons, List.length_nil]; omega)]
      rfl
    · have n9 := n8 i (by rw [show (B_X1 (N0 + 1) f0 f1 ++ B_X1 (N0 + 1 + 7) g0 g1 ++ B_X7 (N0 + 1 + 14) ++ B_X4 (N0 + 1 + 16) (N0 + 1) f ++ B_X5 (N0 + 1 + 142) (N0 + 1) (N0 + 1 + 16) ++ B_X5 (N0 + 1 + 148) (N0 + 1) (N0 + 1 + 16) ++ B_X0 (N0 + 1 + 154) ++ B_X6 (N0 + 1 + 180) ++ B_X2 (N0 + 1 + 194) ++ [iaZ 8] ++ [iaZ 8] ++ [iaZ 8]).length = 199 by simp only [B_X1_len, B_X7_len, B_X4_len, B_X5_len, B_X0_len, B_X6_len, B_X2_len, List.length_append, List.length_cons, List.length_nil]]; omega)
      rw [xup_n (by omega), xup_n (by omega), n9]
      rw [fr_same (N0 := N0) (i := i) e]
  have a8 : M N0 = some (.inr (11, [.ref (N0 + 1), .ref (N0 + 1 + 7), .ref (N0 + 1 + 14), .ref (N0 + 1 + 16), .ref (N0 + 1 + 142), .ref (N0 + 1 + 148), .ref (N0 + 1 + 154), .ref (N0 + 1 + 180), .ref (N0 + 1 + 194), .ref (N0 + 1 + 196), .ref (N0 + 1 + 197), .ref (N0 + 1 + 198), .int (nI 0), .long (-1)])) := by
    rw [← hM, xup_n (by omega), xup_n (by omega), o8]; exact hk8.1
  have a9 : M (N0 + 1 + 199) = some (.inr (12, [.int 0, .ref (N0 + 1 + 199 + 1), .int 0, .int (nI 1), .ref (N0 + 1 + 199 + 1 + 1), .ref (N0 + 1 + 199 + 1 + 2), .ref (N0 + 1 + 199 + 1 + 3), .ref (N0 + 1 + 199 + 1 + 4), .ref (N0 + 1 + 199 + 1 + 5), .ref (N0 + 1 + 199 + 1 + 6), .int 0, .ref (N0 + 1 + 199 + 1 + 7), .ref (N0 + 1 + 199 + 1 + 8), .ref (N0 + 1 + 199 + 1 + 9), .ref (N0 + 1 + 199 + 1 + 10), .ref (N0 + 1 + 199 + 1 + 11), .ref (N0 + 1 + 199 + 1 + 12), .ref (N0 + 1 + 199 + 1 + 13), .ref (N0 + 1 + 199 + 1 + 14), .ref (N0 + 1 + 199 + 1 + 15), .ref (N0 + 1 + 199 + 1 + 16), .int 0, .int 0, .int 0, .ref (N0 + 1 + 199 + 1 + 17), .int 0, .ref (N0 + 1 + 199 + 1 + 18), .int 0, .ref (N0 + 1 + 199 + 1 + 19), .int 0, .int 0, .ref (N0 + 1 + 199 + 1 + 20), .ref (N0 + 1 + 199 + 1 + 21), .ref (N0 + 1 + 199 + 1 + 22), .ref (N0 + 1 + 199 + 1 + 23), .ref (N0 + 1 + 199 + 1 + 24), .ref (N0 + 1 + 199 + 1 + 25), .ref (N0 + 1 + 199 + 1 + 26)])) := by
    rw [← hM, xup_n (by omega), xup_n (by omega)]; exact hk9.1
  have k9 : nb M (N0 + 1 + 199 + 1) [iaZ 50, .inl (.int, 3, .inl oneI), .inl (.int, 3, .inl oneI), zaZ 6, .inl (.boolean, 4, .inl oneF), .inl (.boolean, 4, .inl oneF), iaZ 4, iaZ 8, iaZ 8, iaZ 8, iaZ 6400, iaZ 16, iaZ 16, iaZ 8064, iaZ 336, iaZ 336, laZ 336, laZ 120, laZ 126, iaZ 4, iaZ 4, iaZ 3, iaZ 3, zaZ 6, iaZ 360, iaZ 15, iaZ 15] := fun i hi => by
    have hl : i < 27 := hi
    rw [← hM, xup_n (by omega), xup_n (by omega)]; exact hk9.2.2 i hi
  have ao : M (N0 + 228) = some (.inl (.long, 1, .inr (.inl (fun _ => 0)))) := by
    rw [← hM, xup_n (by omega), show N0 + 228 = N0 + 1 + 199 + 1 + 27 by omega, xup_s]
  exact law_loop (ad := adC N0) (o := N0 + 200) (ob := N0 + 228) (as := asC N0) hlt hs hL hy 512 0 _ _ M _ _ (by omega) (by omega) (by show N0 + 1 + 199 + 1 + 27 + 1 + 512 + 163840 ≤ _; omega) (by show S0 + 14 + 1956 + 38 + 16258 + 1 + 6 * 512 + 327680 ≤ _; omega) (start_LJ (N := N0 + 1 + 199 + 1 + 27 + 1) (S := S0 + 14 + 1956 + 38 + 16258 + 1) h0 h1 (start_cls a8 k8) (start_ref a9 k9) ao (by omega) (by omega))
end XW6
