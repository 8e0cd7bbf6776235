section XS
/-! Steps of addition, subtraction, multiplication, limb by limb. -/
theorem div_pow_succ (a i : Nat) : a / B9 ^ (i + 1) = a / B9 ^ i / B9 := by rw [B9_succ, Nat.div_div_eq_div_mul]
theorem div_dg (a i : Nat) : a / B9 ^ i = a / B9 ^ (i + 1) * B9 + dg a i := by
  rw [div_pow_succ]; unfold dg
  have := Nat.div_add_mod (a / B9 ^ i) B9
  rw [Nat.mul_comm] at this
  exact this.symm
theorem mod_dg (a i : Nat) : a % B9 ^ (i + 1) = a % B9 ^ i + dg a i * B9 ^ i := by
  rw [B9_succ, Nat.mod_mul, dg, Nat.mul_comm]
/-- two numbers whose quotients by B9 ^ i are told: their digits at i -/
theorem dg_of_div {a i x y : Nat} (h : a / B9 ^ i = x * B9 + y) (hy : y < B9) : dg a i = y ∧ a / B9 ^ (i + 1) = x := by
  unfold dg
  rw [div_pow_succ, h]
  constructor
  · rw [Nat.add_comm, Nat.add_mul_mod_self_right, Nat.mod_eq_of_lt hy]
  · rw [Nat.add_comm, Nat.add_mul_div_right _ _ (by decide), Nat.div_eq_of_lt hy, Nat.zero_add]
def cy (a b i : Nat) : Nat := (a % B9 ^ i + b % B9 ^ i) / B9 ^ i
theorem cy_le (a b i : Nat) : cy a b i ≤ 1 := by
  unfold cy
  have h1 := Nat.mod_lt a (B9_pos i)
  have h2 := Nat.mod_lt b (B9_pos i)
  have h3 : (a % B9 ^ i + b % B9 ^ i) / B9 ^ i < 2 := Nat.div_lt_of_lt_mul (by omega)
  omega
theorem cy_div (a b i : Nat) : (a + b) / B9 ^ i = a / B9 ^ i + b / B9 ^ i + cy a b i := by
  unfold cy
  have h1 := Nat.div_add_mod a (B9 ^ i)
  have h2 := Nat.div_add_mod b (B9 ^ i)
  have e : a + b = (a % B9 ^ i + b % B9 ^ i) + (a / B9 ^ i + b / B9 ^ i) * B9 ^ i := by
    rw [Nat.add_mul, Nat.mul_comm (a / B9 ^ i), Nat.mul_comm (b / B9 ^ i)]
    omega
  conv => lhs; rw [e]
  rw [Nat.add_mul_div_right _ _ (B9_pos i)]
  omega
theorem cy_zero (a b : Nat) : cy a b 0 = 0 := by
  unfold cy
  rw [Nat.pow_zero, Nat.mod_one, Nat.mod_one]
theorem cy_step (a b i : Nat) : dg (a + b) i = (cy a b i + dg a i + dg b i) % B9 ∧ cy a b (i + 1) = (cy a b i + dg a i + dg b i) / B9 := by
  have h1 := cy_div a b i
  have h2 := cy_div a b (i + 1)
  have h3 := div_dg a i
  have h4 := div_dg b i
  have h5 := div_dg (a + b) i
  have h6 := dg_lt (a + b) i
  have hB : B9 = 1000000000 := rfl
  generalize a / B9 ^ i = x1 at *
  generalize b / B9 ^ i = x2 at *
  generalize (a + b) / B9 ^ i = x3 at *
  generalize a / B9 ^ (i + 1) = y1 at *
  generalize b / B9 ^ (i + 1) = y2 at *
  generalize (a + b) / B9 ^ (i + 1) = y3 at *
  generalize cy a b i = c at *
  generalize cy a b (i + 1) = c' at *
  generalize dg a i = u at *
  generalize dg b i = v at *
  generalize dg (a + b) i = w at *
  rw [hB] at *
  omega
/-- what is borrowed below i -/
def bw (a b i : Nat) : Nat := if a % B9 ^ i < b % B9 ^ i then 1 else 0
theorem bw_zero (a b : Nat) : bw a b 0 = 0 := by unfold bw; rw [Nat.pow_zero, Nat.mod_one, Nat.mod_one]; rfl
theorem bw_le (a b i : Nat) : bw a b i ≤ 1 := by unfold bw; split <;> omega
theorem bw_step {a b : Nat} (h : b ≤ a) (i : Nat) : (dg a i < dg b i + bw a b i → dg (a - b) i + dg b i + bw a b i = dg a i + B9 ∧ bw a b (i + 1) = 1) ∧ (dg b i + bw a b i ≤ dg a i → dg (a - b) i + dg b i + bw a b i = dg a i ∧ bw a b (i + 1) = 0) := by
  have hc := cy_step (a - b) b i
  rw [Nat.sub_add_cancel h] at hc
  have key : ∀ i, cy (a - b) b i = bw a b i := by
    intro i
    unfold cy bw
    have h1 := Nat.mod_lt (a - b) (B9_pos i)
    have h2 := Nat.mod_lt b (B9_pos i)
    have h3 : a % B9 ^ i = ((a - b) % B9 ^ i + b % B9 ^ i) % B9 ^ i := by rw [← Nat.add_mod, Nat.sub_add_cancel h]
    generalize (a - b) % B9 ^ i = x at *
    generalize b % B9 ^ i = y at *
    generalize a % B9 ^ i = z at *
    generalize B9 ^ i = p at *
    by_cases hx : x + y < p
    · rw [Nat.mod_eq_of_lt hx] at h3
      rw [Nat.div_eq_of_lt hx, if_neg (by omega)]
    · have e : x + y = (x + y - p) + p := by omega
      have h4 : (x + y) % p = x + y - p := by
        rw [e, Nat.add_mod_right, Nat.mod_eq_of_lt (by omega)]; omega
      have h5 : (x + y) / p = 1 := by
        rw [e, Nat.add_div_right _ (by omega), Nat.div_eq_of_lt (by omega)]
      rw [h4] at h3
      rw [h5, if_pos (by omega)]
  rw [key, key] at hc
  have h1 := dg_lt a i
  have h2 := dg_lt b i
  have h3 := dg_lt (a - b) i
  have h4 := bw_le a b i
  have hB : B9 = 1000000000 := rfl
  generalize bw a b (i + 1) = c' at *
  generalize bw a b i = c at *
  generalize dg a i = u at *
  generalize dg b i = v at *
  generalize dg (a - b) i = w at *
  rw [hB] at *
  omega
theorem nl_add {a b m n : Nat} (ha : nl a m) (hb : nl b n) : a + b < B9 ^ (max m n + 1) := by
  have h1 := Nat.lt_of_lt_of_le ha.1 (B9_mono (Nat.le_max_left m n))
  have h2 := Nat.lt_of_lt_of_le hb.1 (B9_mono (Nat.le_max_right m n))
  rw [B9_succ]
  have : B9 ^ max m n * 2 ≤ B9 ^ max m n * B9 := Nat.mul_le_mul_left _ (by decide)
  omega
/-- compare limb by limb -/
theorem nl_lt {a b m n : Nat} (ha : nl a m) (hb : nl b n) (h : m < n) : a < b := by
  rcases hb.2 with e | e
  · omega
  · exact Nat.lt_of_lt_of_le (Nat.lt_of_lt_of_le ha.1 (B9_mono (by omega))) e
theorem div_succ_lt {a b i : Nat} (h : a / B9 ^ i < b / B9 ^ i) : a < b := by
  refine Nat.lt_of_not_le (fun q => ?_)
  have := Nat.div_le_div_right (c := B9 ^ i) q
  omega
/-- signed numbers -/
abbrev iI (z : Int) : Int32 := Int32.ofInt z
abbrev iL (z : Int) : Int64 := Int64.ofInt z
theorem nI_i (n : Nat) : nI n = iI (n : Int) := Int32.ofInt_eq_ofNat.symm
theorem lN_i' (n : Nat) : lN n = iL (n : Int) := Int64.ofInt_eq_ofNat.symm
theorem iI_t {z : Int} (h1 : -2147483648 ≤ z) (h2 : z < 2147483648) : (iI z).toInt = z := Int32.toInt_ofInt_of_le h1 h2
theorem iL_t {z : Int} (h1 : -9223372036854775808 ≤ z) (h2 : z < 9223372036854775808) : (iL z).toInt = z := Int64.toInt_ofInt_of_le h1 h2
theorem lN_of_toInt {v : Int64} {z : Int} (hz : v.toInt = z) (h : 0 ≤ z) : v = lN z.natAbs := by
  apply Int64.toInt_inj.mp
  have h2 : z < 9223372036854775808 := by rw [← hz]; exact Int64.toInt_lt v
  rw [pk_lT (by omega), hz]
  omega
theorem lN_of_neg {v : Int64} {z : Int} (hz : v.toInt = z) (h : z < 0) (h2 : -9223372036854775808 < z) : -v = lN z.natAbs := by
  apply Int64.toInt_inj.mp
  rw [pk_lT (by omega), Int64.toInt_neg, hz, Int.bmod_eq_of_le (by omega) (by omega)]
  omega
end XS
section XT
variable {G : xG} {l : Launch} {Y : xY} {d : Nat} {Q : xPost} {pc q : Nat} {ls : List (Nat × Value)} {st : List Value} {M : xM} {N S : Nat}
theorem x_topi {x y : Int32} (h : x = y) (k : xX G l Y d Q pc ls (.int y :: st) M N S) : xX G l Y d Q pc ls (.int x :: st) M N S := by rw [h]; exact k
theorem x_topl {x y : Int64} (h : x = y) (k : xX G l Y d Q pc ls (.long y :: st) M N S) : xX G l Y d Q pc ls (.long x :: st) M N S := by rw [h]; exact k
end XT
