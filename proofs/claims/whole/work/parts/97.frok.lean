section ZL
theorem adj_lek (c : mCf) (s : Nat) : ∀ k, adj c s k ≤ k
  | 0 => Nat.le_refl _
  | k + 1 => by
    have := adj_lek c s k
    unfold adj
    split <;> omega
theorem zK_bd {c : mCf} (hok : okL c) : ∀ i j, i < 10 → j < 10 → (zK c i j).natAbs ≤ 4100000000 := fun i j hi hj => by
  have h1 := puP_le hok hi hj
  have h2 := adj_lek c i c.m
  have h3 := hok.1
  have h4 := Nat.mul_le_mul_right 331195392 (Nat.le_trans h2 h3)
  show (puP c (i * 10 + j)).natAbs ≤ _
  omega
theorem zW_all {c : mCf} (hok : okL c) : ∀ t, t ≤ 10 → ∃ k p, zW (zK c) (frP c) t k p (swP c t).1 (swP c t).2.1 (swP c t).2.2
  | 0, _ => ⟨0, fun _ => 0, zW0 (zK_sy hok.1) (frP c)⟩
  | t + 1, ht => by
    obtain ⟨k, p, h⟩ := zW_all hok t (by omega)
    exact h.step (zK_sy hok.1) (zK_ps hok.1) (by omega)
theorem frOk_all {c : mCf} (hok : okL c) : frOk c := fun t ht => by
  obtain ⟨k, p, h⟩ := zW_all hok t ht
  exact h.bd (zK_bd hok) ht
/-- which slots a move without load moves -/
theorem slS_ker {c : mCf} (hok : okL c) {s : Nat} (hs : s < 10) : slS (frP c) (swP c 10).2.2 (swP c 10).1 s = true ↔ frP c s = true ∧ ∃ x, zKer (zK c) (frP c) x ∧ x s ≠ 0 := by
  obtain ⟨k, p, h⟩ := zW_all hok 10 (by omega)
  exact h.slack hs
theorem swp_pos {c : mCf} (hok : okL c) : 0 < (swP c 10).2.1 := by
  obtain ⟨k, p, h⟩ := zW_all hok 10 (by omega)
  exact h.pos
/-- no move without load: the frame's numbers are the inverse -/
theorem swp_inv {c : mCf} (hok : okL c) (hno : ∀ x, zKer (zK c) (frP c) x → ∀ s, s < 10 → x s = 0) (x : Nat → Int) (hx : ∀ l, l < 10 → frP c l = false → x l = 0) {i : Nat} (hi : i < 10) (fi : frP c i = true) : (swP c 10).2.1 * x i = zS 10 (fun j => if frP c j = true then clP (swP c 10).1 i j * -(zS 10 (fun l => zK c j l * x l)) else 0) := by
  obtain ⟨k, p, h⟩ := zW_all hok 10 (by omega)
  refine h.inv (zK_sy hok.1) (fun s hs fs => ?_) x hx hi fi
  cases e : (swP c 10).2.2 s
  · have h1 := h.ker hs fs e
    have h2 := hno _ h1 s hs
    rw [h.xo e, if_pos rfl] at h2
    have := h.pos
    omega
  · rfl
end ZL
