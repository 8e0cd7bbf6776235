section XU
variable {G : xG} {l : Launch} {Y : xY} {d : Nat} {Q : xPost} {pc q : Nat} {ls : List (Nat × Value)} {st : List Value} {M : xM} {N S : Nat}
theorem xi_iadd {x y : Int32} {a b : Int} (hd : decode Y.2.1 pc = .ok (.iadd, 1)) (hq : pc + 1 = q) (hx : x = iI a) (hy : y = iI b) (k : xX G l Y d Q q ls (.int (iI (a + b)) :: st) M N S) : xX G l Y d Q pc ls (.int y :: .int x :: st) M N S := by
  subst hx; subst hy
  exact x_iadd hd hq (by rw [← Int32.ofInt_add]; exact k)
theorem xi_ladd {x y : Int64} {a b : Int} (hd : decode Y.2.1 pc = .ok (.ladd, 1)) (hq : pc + 1 = q) (hx : x = iL a) (hy : y = iL b) (k : xX G l Y d Q q ls (.long (iL (a + b)) :: st) M N S) : xX G l Y d Q pc ls (.long y :: .long x :: st) M N S := by
  subst hx; subst hy
  exact x_ladd hd hq (by rw [← Int64.ofInt_add]; exact k)
theorem xi_isub {x y : Int32} {a b : Int} (hd : decode Y.2.1 pc = .ok (.isub, 1)) (hq : pc + 1 = q) (hx : x = iI a) (hy : y = iI b) (k : xX G l Y d Q q ls (.int (iI (a - b)) :: st) M N S) : xX G l Y d Q pc ls (.int y :: .int x :: st) M N S := by
  subst hx; subst hy
  exact x_isub hd hq (by rw [← Int32.ofInt_sub]; exact k)
theorem xi_lsub {x y : Int64} {a b : Int} (hd : decode Y.2.1 pc = .ok (.lsub, 1)) (hq : pc + 1 = q) (hx : x = iL a) (hy : y = iL b) (k : xX G l Y d Q q ls (.long (iL (a - b)) :: st) M N S) : xX G l Y d Q pc ls (.long y :: .long x :: st) M N S := by
  subst hx; subst hy
  exact x_lsub hd hq (by rw [← Int64.ofInt_sub]; exact k)
theorem xi_imul {x y : Int32} {a b : Int} (hd : decode Y.2.1 pc = .ok (.imul, 1)) (hq : pc + 1 = q) (hx : x = iI a) (hy : y = iI b) (k : xX G l Y d Q q ls (.int (iI (a * b)) :: st) M N S) : xX G l Y d Q pc ls (.int y :: .int x :: st) M N S := by
  subst hx; subst hy
  exact x_imul hd hq (by rw [← Int32.ofInt_mul]; exact k)
theorem xi_lmul {x y : Int64} {a b : Int} (hd : decode Y.2.1 pc = .ok (.lmul, 1)) (hq : pc + 1 = q) (hx : x = iL a) (hy : y = iL b) (k : xX G l Y d Q q ls (.long (iL (a * b)) :: st) M N S) : xX G l Y d Q pc ls (.long y :: .long x :: st) M N S := by
  subst hx; subst hy
  exact x_lmul hd hq (by rw [← Int64.ofInt_mul]; exact k)
theorem xi_ineg {x : Int32} {a : Int} (hd : decode Y.2.1 pc = .ok (.ineg, 1)) (hq : pc + 1 = q) (hx : x = iI a) (k : xX G l Y d Q q ls (.int (iI (-a)) :: st) M N S) : xX G l Y d Q pc ls (.int x :: st) M N S := by
  subst hx
  exact x_ineg hd hq (by rw [← Int32.ofInt_neg]; exact k)
theorem xi_lneg {x : Int64} {a : Int} (hd : decode Y.2.1 pc = .ok (.lneg, 1)) (hq : pc + 1 = q) (hx : x = iL a) (k : xX G l Y d Q q ls (.long (iL (-a)) :: st) M N S) : xX G l Y d Q pc ls (.long x :: st) M N S := by
  subst hx
  exact x_lneg hd hq (by rw [← Int64.ofInt_neg]; exact k)
theorem xi_i2l {x : Int32} {a : Int} (hd : decode Y.2.1 pc = .ok (.i2l, 1)) (hq : pc + 1 = q) (hx : x = iI a) (h1 : -2147483648 ≤ a) (h2 : a < 2147483648) (k : xX G l Y d Q q ls (.long (iL a) :: st) M N S) : xX G l Y d Q pc ls (.int x :: st) M N S := by
  subst hx
  refine x_i2l hd hq ?_
  rw [show (iI a).toInt64 = iL a from Int64.toInt_inj.mp (by rw [Int32.toInt_toInt64, iI_t h1 h2, iL_t (by omega) (by omega)])]
  exact k
theorem xi_l2i {x : Int64} {a : Int} (hd : decode Y.2.1 pc = .ok (.l2i, 1)) (hq : pc + 1 = q) (hx : x = iL a) (h1 : -2147483648 ≤ a) (h2 : a < 2147483648) (k : xX G l Y d Q q ls (.int (iI a) :: st) M N S) : xX G l Y d Q pc ls (.long x :: st) M N S := by
  subst hx
  refine x_l2i hd hq ?_
  rw [show (iL a).toInt32 = iI a from Int32.toInt_inj.mp (by rw [Int64.toInt_toInt32, iI_t h1 h2, iL_t (by omega) (by omega), Int.bmod_eq_of_le (by omega) (by omega)])]
  exact k
theorem iI_lt {a b : Int} (h1 : -2147483648 ≤ a) (h2 : a < 2147483648) (h3 : -2147483648 ≤ b) (h4 : b < 2147483648) : iI a < iI b ↔ a < b := by rw [Int32.lt_iff_toInt_lt, iI_t h1 h2, iI_t h3 h4]
theorem iI_le {a b : Int} (h1 : -2147483648 ≤ a) (h2 : a < 2147483648) (h3 : -2147483648 ≤ b) (h4 : b < 2147483648) : iI a ≤ iI b ↔ a ≤ b := by rw [Int32.le_iff_toInt_le, iI_t h1 h2, iI_t h3 h4]
theorem iI_eq {a b : Int} (h1 : -2147483648 ≤ a) (h2 : a < 2147483648) (h3 : -2147483648 ≤ b) (h4 : b < 2147483648) : iI a = iI b ↔ a = b := ⟨fun h => by have := congrArg Int32.toInt h; rwa [iI_t h1 h2, iI_t h3 h4] at this, fun h => by rw [h]⟩
theorem iL_lt {a b : Int} (h1 : -9223372036854775808 ≤ a) (h2 : a < 9223372036854775808) (h3 : -9223372036854775808 ≤ b) (h4 : b < 9223372036854775808) : iL a < iL b ↔ a < b := by rw [Int64.lt_iff_toInt_lt, iL_t h1 h2, iL_t h3 h4]
theorem iL_le {a b : Int} (h1 : -9223372036854775808 ≤ a) (h2 : a < 9223372036854775808) (h3 : -9223372036854775808 ≤ b) (h4 : b < 9223372036854775808) : iL a ≤ iL b ↔ a ≤ b := by rw [Int64.le_iff_toInt_le, iL_t h1 h2, iL_t h3 h4]
theorem iL_eq {a b : Int} (h1 : -9223372036854775808 ≤ a) (h2 : a < 9223372036854775808) (h3 : -9223372036854775808 ≤ b) (h4 : b < 9223372036854775808) : iL a = iL b ↔ a = b := ⟨fun h => by have := congrArg Int64.toInt h; rwa [iL_t h1 h2, iL_t h3 h4] at this, fun h => by rw [h]⟩
theorem xi_icmp_eq {x y : Int32} {a b : Int} {off : Int} (t : Nat) (hd : decode Y.2.1 pc = .ok (.if_icmp .eq off, 3)) (ht : (pc : Int) + off = (t : Int)) (hq : pc + 3 = q) (hx : x = iI a) (hy : y = iI b) (h1 : -2147483648 ≤ a) (h2 : a < 2147483648) (h3 : -2147483648 ≤ b) (h4 : b < 2147483648) (kt : a = b → xX G l Y d Q t ls st M N S) (kf : ¬ a = b → xX G l Y d Q q ls st M N S) : xX G l Y d Q pc ls (.int y :: .int x :: st) M N S := by
  subst hx; subst hy
  exact x_icmp_eq t hd ht hq (fun h => kt ((iI_eq h1 h2 h3 h4).mp h)) (fun h => kf (fun z => h ((iI_eq h1 h2 h3 h4).mpr z)))
theorem xi_lcmp_eq {x y : Int64} {a b : Int} {off : Int} {q1 : Nat} (t : Nat) (hd : decode Y.2.1 pc = .ok (.lcmp, 1)) (hq1 : pc + 1 = q1) (hd1 : decode Y.2.1 q1 = .ok (.ifCond .eq off, 3)) (ht : (q1 : Int) + off = (t : Int)) (hq : q1 + 3 = q) (hx : x = iL a) (hy : y = iL b) (h1 : -9223372036854775808 ≤ a) (h2 : a < 9223372036854775808) (h3 : -9223372036854775808 ≤ b) (h4 : b < 9223372036854775808) (kt : a = b → xX G l Y d Q t ls st M N S) (kf : ¬ a = b → xX G l Y d Q q ls st M N S) : xX G l Y d Q pc ls (.long y :: .long x :: st) M N S := by
  subst hx; subst hy
  exact x_lcmp_eq t hd hq1 hd1 ht hq (fun h => kt ((iL_eq h1 h2 h3 h4).mp h)) (fun h => kf (fun z => h ((iL_eq h1 h2 h3 h4).mpr z)))
theorem xi_if_eq {x : Int32} {a : Int} {off : Int} (t : Nat) (hd : decode Y.2.1 pc = .ok (.ifCond .eq off, 3)) (ht : (pc : Int) + off = (t : Int)) (hq : pc + 3 = q) (hx : x = iI a) (h1 : -2147483648 ≤ a) (h2 : a < 2147483648) (kt : a = 0 → xX G l Y d Q t ls st M N S) (kf : ¬ a = 0 → xX G l Y d Q q ls st M N S) : xX G l Y d Q pc ls (.int x :: st) M N S := by
  subst hx
  have h3 : (-2147483648 : Int) ≤ 0 := by decide
  have h4 : (0 : Int) < 2147483648 := by decide
  have e0 : (0 : Int32) = iI 0 := rfl
  exact x_if_eq t hd ht hq (fun h => by rw [e0] at h; exact kt ((iI_eq h1 h2 h3 h4).mp h)) (fun h => by rw [e0] at h; exact kf (fun z => h ((iI_eq h1 h2 h3 h4).mpr z)))
theorem xi_icmp_ne {x y : Int32} {a b : Int} {off : Int} (t : Nat) (hd : decode Y.2.1 pc = .ok (.if_icmp .ne off, 3)) (ht : (pc : Int) + off = (t : Int)) (hq : pc + 3 = q) (hx : x = iI a) (hy : y = iI b) (h1 : -2147483648 ≤ a) (h2 : a < 2147483648) (h3 : -2147483648 ≤ b) (h4 : b < 2147483648) (kt : ¬ a = b → xX G l Y d Q t ls st M N S) (kf : a = b → xX G l Y d Q q ls st M N S) : xX G l Y d Q pc ls (.int y :: .int x :: st) M N S := by
  subst hx; subst hy
  exact x_icmp_ne t hd ht hq (fun h => kt (fun z => h ((iI_eq h1 h2 h3 h4).mpr z))) (fun h => kf ((iI_eq h1 h2 h3 h4).mp h))
theorem xi_lcmp_ne {x y : Int64} {a b : Int} {off : Int} {q1 : Nat} (t : Nat) (hd : decode Y.2.1 pc = .ok (.lcmp, 1)) (hq1 : pc + 1 = q1) (hd1 : decode Y.2.1 q1 = .ok (.ifCond .ne off, 3)) (ht : (q1 : Int) + off = (t : Int)) (hq : q1 + 3 = q) (hx : x = iL a) (hy : y = iL b) (h1 : -9223372036854775808 ≤ a) (h2 : a < 9223372036854775808) (h3 : -9223372036854775808 ≤ b) (h4 : b < 9223372036854775808) (kt : ¬ a = b → xX G l Y d Q t ls st M N S) (kf : a = b → xX G l Y d Q q ls st M N S) : xX G l Y d Q pc ls (.long y :: .long x :: st) M N S := by
  subst hx; subst hy
  exact x_lcmp_ne t hd hq1 hd1 ht hq (fun h => kt (fun z => h ((iL_eq h1 h2 h3 h4).mpr z))) (fun h => kf ((iL_eq h1 h2 h3 h4).mp h))
theorem xi_if_ne {x : Int32} {a : Int} {off : Int} (t : Nat) (hd : decode Y.2.1 pc = .ok (.ifCond .ne off, 3)) (ht : (pc : Int) + off = (t : Int)) (hq : pc + 3 = q) (hx : x = iI a) (h1 : -2147483648 ≤ a) (h2 : a < 2147483648) (kt : ¬ a = 0 → xX G l Y d Q t ls st M N S) (kf : a = 0 → xX G l Y d Q q ls st M N S) : xX G l Y d Q pc ls (.int x :: st) M N S := by
  subst hx
  have h3 : (-2147483648 : Int) ≤ 0 := by decide
  have h4 : (0 : Int) < 2147483648 := by decide
  have e0 : (0 : Int32) = iI 0 := rfl
  exact x_if_ne t hd ht hq (fun h => by rw [e0] at h; exact kt (fun z => h ((iI_eq h1 h2 h3 h4).mpr z))) (fun h => by rw [e0] at h; exact kf ((iI_eq h1 h2 h3 h4).mp h))
theorem xi_icmp_lt {x y : Int32} {a b : Int} {off : Int} (t : Nat) (hd : decode Y.2.1 pc = .ok (.if_icmp .lt off, 3)) (ht : (pc : Int) + off = (t : Int)) (hq : pc + 3 = q) (hx : x = iI a) (hy : y = iI b) (h1 : -2147483648 ≤ a) (h2 : a < 2147483648) (h3 : -2147483648 ≤ b) (h4 : b < 2147483648) (kt : a < b → xX G l Y d Q t ls st M N S) (kf : b ≤ a → xX G l Y d Q q ls st M N S) : xX G l Y d Q pc ls (.int y :: .int x :: st) M N S := by
  subst hx; subst hy
  exact x_icmp_lt t hd ht hq (fun h => kt ((iI_lt h1 h2 h3 h4).mp h)) (fun h => kf (Int.not_lt.mp (fun z => h ((iI_lt h1 h2 h3 h4).mpr z))))
theorem xi_lcmp_lt {x y : Int64} {a b : Int} {off : Int} {q1 : Nat} (t : Nat) (hd : decode Y.2.1 pc = .ok (.lcmp, 1)) (hq1 : pc + 1 = q1) (hd1 : decode Y.2.1 q1 = .ok (.ifCond .lt off, 3)) (ht : (q1 : Int) + off = (t : Int)) (hq : q1 + 3 = q) (hx : x = iL a) (hy : y = iL b) (h1 : -9223372036854775808 ≤ a) (h2 : a < 9223372036854775808) (h3 : -9223372036854775808 ≤ b) (h4 : b < 9223372036854775808) (kt : a < b → xX G l Y d Q t ls st M N S) (kf : b ≤ a → xX G l Y d Q q ls st M N S) : xX G l Y d Q pc ls (.long y :: .long x :: st) M N S := by
  subst hx; subst hy
  exact x_lcmp_lt t hd hq1 hd1 ht hq (fun h => kt ((iL_lt h1 h2 h3 h4).mp h)) (fun h => kf (Int.not_lt.mp (fun z => h ((iL_lt h1 h2 h3 h4).mpr z))))
theorem xi_if_lt {x : Int32} {a : Int} {off : Int} (t : Nat) (hd : decode Y.2.1 pc = .ok (.ifCond .lt off, 3)) (ht : (pc : Int) + off = (t : Int)) (hq : pc + 3 = q) (hx : x = iI a) (h1 : -2147483648 ≤ a) (h2 : a < 2147483648) (kt : a < 0 → xX G l Y d Q t ls st M N S) (kf : 0 ≤ a → xX G l Y d Q q ls st M N S) : xX G l Y d Q pc ls (.int x :: st) M N S := by
  subst hx
  have h3 : (-2147483648 : Int) ≤ 0 := by decide
  have h4 : (0 : Int) < 2147483648 := by decide
  have e0 : (0 : Int32) = iI 0 := rfl
  exact x_if_lt t hd ht hq (fun h => by rw [e0] at h; exact kt ((iI_lt h1 h2 h3 h4).mp h)) (fun h => by rw [e0] at h; exact kf (Int.not_lt.mp (fun z => h ((iI_lt h1 h2 h3 h4).mpr z))))
theorem xi_icmp_ge {x y : Int32} {a b : Int} {off : Int} (t : Nat) (hd : decode Y.2.1 pc = .ok (.if_icmp .ge off, 3)) (ht : (pc : Int) + off = (t : Int)) (hq : pc + 3 = q) (hx : x = iI a) (hy : y = iI b) (h1 : -2147483648 ≤ a) (h2 : a < 2147483648) (h3 : -2147483648 ≤ b) (h4 : b < 2147483648) (kt : b ≤ a → xX G l Y d Q t ls st M N S) (kf : a < b → xX G l Y d Q q ls st M N S) : xX G l Y d Q pc ls (.int y :: .int x :: st) M N S := by
  subst hx; subst hy
  exact x_icmp_ge t hd ht hq (fun h => kt ((iI_le h3 h4 h1 h2).mp h)) (fun h => kf (Int.not_le.mp (fun z => h ((iI_le h3 h4 h1 h2).mpr z))))
theorem xi_lcmp_ge {x y : Int64} {a b : Int} {off : Int} {q1 : Nat} (t : Nat) (hd : decode Y.2.1 pc = .ok (.lcmp, 1)) (hq1 : pc + 1 = q1) (hd1 : decode Y.2.1 q1 = .ok (.ifCond .ge off, 3)) (ht : (q1 : Int) + off = (t : Int)) (hq : q1 + 3 = q) (hx : x = iL a) (hy : y = iL b) (h1 : -9223372036854775808 ≤ a) (h2 : a < 9223372036854775808) (h3 : -9223372036854775808 ≤ b) (h4 : b < 9223372036854775808) (kt : b ≤ a → xX G l Y d Q t ls st M N S) (kf : a < b → xX G l Y d Q q ls st M N S) : xX G l Y d Q pc ls (.long y :: .long x :: st) M N S := by
  subst hx; subst hy
  exact x_lcmp_ge t hd hq1 hd1 ht hq (fun h => kt ((iL_le h3 h4 h1 h2).mp h)) (fun h => kf (Int.not_le.mp (fun z => h ((iL_le h3 h4 h1 h2).mpr z))))
theorem xi_if_ge {x : Int32} {a : Int} {off : Int} (t : Nat) (hd : decode Y.2.1 pc = .ok (.ifCond .ge off, 3)) (ht : (pc : Int) + off = (t : Int)) (hq : pc + 3 = q) (hx : x = iI a) (h1 : -2147483648 ≤ a) (h2 : a < 2147483648) (kt : 0 ≤ a → xX G l Y d Q t ls st M N S) (kf : a < 0 → xX G l Y d Q q ls st M N S) : xX G l Y d Q pc ls (.int x :: st) M N S := by
  subst hx
  have h3 : (-2147483648 : Int) ≤ 0 := by decide
  have h4 : (0 : Int) < 2147483648 := by decide
  have e0 : (0 : Int32) = iI 0 := rfl
  exact x_if_ge t hd ht hq (fun h => by rw [e0] at h; exact kt ((iI_le h3 h4 h1 h2).mp h)) (fun h => by rw [e0] at h; exact kf (Int.not_le.mp (fun z => h ((iI_le h3 h4 h1 h2).mpr z))))
theorem xi_icmp_gt {x y : Int32} {a b : Int} {off : Int} (t : Nat) (hd : decode Y.2.1 pc = .ok (.if_icmp .gt off, 3)) (ht : (pc : Int) + off = (t : Int)) (hq : pc + 3 = q) (hx : x = iI a) (hy : y = iI b) (h1 : -2147483648 ≤ a) (h2 : a < 2147483648) (h3 : -2147483648 ≤ b) (h4 : b < 2147483648) (kt : b < a → xX G l Y d Q t ls st M N S) (kf : a ≤ b → xX G l Y d Q q ls st M N S) : xX G l Y d Q pc ls (.int y :: .int x :: st) M N S := by
  subst hx; subst hy
  exact x_icmp_gt t hd ht hq (fun h => kt ((iI_lt h3 h4 h1 h2).mp h)) (fun h => kf (Int.not_lt.mp (fun z => h ((iI_lt h3 h4 h1 h2).mpr z))))
theorem xi_lcmp_gt {x y : Int64} {a b : Int} {off : Int} {q1 : Nat} (t : Nat) (hd : decode Y.2.1 pc = .ok (.lcmp, 1)) (hq1 : pc + 1 = q1) (hd1 : decode Y.2.1 q1 = .ok (.ifCond .gt off, 3)) (ht : (q1 : Int) + off = (t : Int)) (hq : q1 + 3 = q) (hx : x = iL a) (hy : y = iL b) (h1 : -9223372036854775808 ≤ a) (h2 : a < 9223372036854775808) (h3 : -9223372036854775808 ≤ b) (h4 : b < 9223372036854775808) (kt : b < a → xX G l Y d Q t ls st M N S) (kf : a ≤ b → xX G l Y d Q q ls st M N S) : xX G l Y d Q pc ls (.long y :: .long x :: st) M N S := by
  subst hx; subst hy
  exact x_lcmp_gt t hd hq1 hd1 ht hq (fun h => kt ((iL_lt h3 h4 h1 h2).mp h)) (fun h => kf (Int.not_lt.mp (fun z => h ((iL_lt h3 h4 h1 h2).mpr z))))
theorem xi_if_gt {x : Int32} {a : Int} {off : Int} (t : Nat) (hd : decode Y.2.1 pc = .ok (.ifCond .gt off, 3)) (ht : (pc : Int) + off = (t : Int)) (hq : pc + 3 = q) (hx : x = iI a) (h1 : -2147483648 ≤ a) (h2 : a < 2147483648) (kt : 0 < a → xX G l Y d Q t ls st M N S) (kf : a ≤ 0 → xX G l Y d Q q ls st M N S) : xX G l Y d Q pc ls (.int x :: st) M N S := by
  subst hx
  have h3 : (-2147483648 : Int) ≤ 0 := by decide
  have h4 : (0 : Int) < 2147483648 := by decide
  have e0 : (0 : Int32) = iI 0 := rfl
  exact x_if_gt t hd ht hq (fun h => by rw [e0] at h; exact kt ((iI_lt h3 h4 h1 h2).mp h)) (fun h => by rw [e0] at h; exact kf (Int.not_lt.mp (fun z => h ((iI_lt h3 h4 h1 h2).mpr z))))
theorem xi_icmp_le {x y : Int32} {a b : Int} {off : Int} (t : Nat) (hd : decode Y.2.1 pc = .ok (.if_icmp .le off, 3)) (ht : (pc : Int) + off = (t : Int)) (hq : pc + 3 = q) (hx : x = iI a) (hy : y = iI b) (h1 : -2147483648 ≤ a) (h2 : a < 2147483648) (h3 : -2147483648 ≤ b) (h4 : b < 2147483648) (kt : a ≤ b → xX G l Y d Q t ls st M N S) (kf : b < a → xX G l Y d Q q ls st M N S) : xX G l Y d Q pc ls (.int y :: .int x :: st) M N S := by
  subst hx; subst hy
  exact x_icmp_le t hd ht hq (fun h => kt ((iI_le h1 h2 h3 h4).mp h)) (fun h => kf (Int.not_le.mp (fun z => h ((iI_le h1 h2 h3 h4).mpr z))))
theorem xi_lcmp_le {x y : Int64} {a b : Int} {off : Int} {q1 : Nat} (t : Nat) (hd : decode Y.2.1 pc = .ok (.lcmp, 1)) (hq1 : pc + 1 = q1) (hd1 : decode Y.2.1 q1 = .ok (.ifCond .le off, 3)) (ht : (q1 : Int) + off = (t : Int)) (hq : q1 + 3 = q) (hx : x = iL a) (hy : y = iL b) (h1 : -9223372036854775808 ≤ a) (h2 : a < 9223372036854775808) (h3 : -9223372036854775808 ≤ b) (h4 : b < 9223372036854775808) (kt : a ≤ b → xX G l Y d Q t ls st M N S) (kf : b < a → xX G l Y d Q q ls st M N S) : xX G l Y d Q pc ls (.long y :: .long x :: st) M N S := by
  subst hx; subst hy
  exact x_lcmp_le t hd hq1 hd1 ht hq (fun h => kt ((iL_le h1 h2 h3 h4).mp h)) (fun h => kf (Int.not_le.mp (fun z => h ((iL_le h1 h2 h3 h4).mpr z))))
theorem xi_if_le {x : Int32} {a : Int} {off : Int} (t : Nat) (hd : decode Y.2.1 pc = .ok (.ifCond .le off, 3)) (ht : (pc : Int) + off = (t : Int)) (hq : pc + 3 = q) (hx : x = iI a) (h1 : -2147483648 ≤ a) (h2 : a < 2147483648) (kt : a ≤ 0 → xX G l Y d Q t ls st M N S) (kf : 0 < a → xX G l Y d Q q ls st M N S) : xX G l Y d Q pc ls (.int x :: st) M N S := by
  subst hx
  have h3 : (-2147483648 : Int) ≤ 0 := by decide
  have h4 : (0 : Int) < 2147483648 := by decide
  have e0 : (0 : Int32) = iI 0 := rfl
  exact x_if_le t hd ht hq (fun h => by rw [e0] at h; exact kt ((iI_le h1 h2 h3 h4).mp h)) (fun h => by rw [e0] at h; exact kf (Int.not_le.mp (fun z => h ((iI_le h1 h2 h3 h4).mpr z))))
end XU
