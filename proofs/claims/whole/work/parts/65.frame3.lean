section XB9
def facZ (j : Nat) : Int := ([12, 6, -12, 6, 6, 4, -6, 2, -12, -6, 12, -6, 6, 2, -6, 4] : List Int).getD j 0
theorem facZ_bd : ∀ j, j < 16 → -12 ≤ facZ j ∧ facZ j ≤ 12 := by decide
def coP (c : mCf) (k i : Nat) : Nat := if i = 0 then k else if i = 1 then esP c (2 * k) else if i = 2 then k + 1 else esP c (2 * k + 1)
def rtP (c : mCf) (k : Nat) : Nat := scP c c.m / c.L k
def pwP (c : mCf) (k i j : Nat) : Nat := rtP c k * (if i % 2 = 0 then rtP c k else 1) * (if j % 2 = 0 then rtP c k else 1)
def puS (c : mCf) : Nat → Nat → Int
  | 0 => fun _ => 0
  | n + 1 => addT (puS c n) (coP c (n / 16) (n % 16 / 4) * 10 + coP c (n / 16) (n % 4)) (facZ (n % 16) * (c.E (n / 16) : Int) * (pwP c (n / 16) (n % 16 / 4) (n % 4) : Int))
def puP (c : mCf) : Nat → Int := puS c (16 * c.m)
theorem coP_lt {c : mCf} {k : Nat} (hk : k < 3) (i : Nat) : coP c k i < 10 := by
  have h1 := esP_lt (c := c) (e := 2 * k) (by omega)
  have h2 := esP_lt (c := c) (e := 2 * k + 1) (by omega)
  unfold coP
  split
  · omega
  · split
    · omega
    · split <;> omega
theorem puS_s {c : mCf} {k i j : Nat} (hi : i < 4) (hj : j < 4) : puS c (16 * k + 4 * i + j + 1) = addT (puS c (16 * k + 4 * i + j)) (coP c k i * 10 + coP c k j) (facZ (4 * i + j) * (c.E k : Int) * (pwP c k i j : Int)) := by
  show addT _ _ _ = _
  rw [show (16 * k + 4 * i + j) / 16 = k by omega, show (16 * k + 4 * i + j) % 16 = 4 * i + j by omega, show (4 * i + j) / 4 = i by omega, show (16 * k + 4 * i + j) % 4 = j by omega]

set_option maxRecDepth 100000 in
set_option maxHeartbeats 4000000 in
theorem b_assemble (G : xG) (l : Launch) (ad : Nat → Nat) (F : xM) (R : Nat × Nat) (d : Nat) (σ : cZ) (c : mCf) (hc : Bm σ 1 c) (hok : okL c) (hes : ∀ e, e < 2 * c.m → (σ 28).1 e = nI (esP c e)) (hsc : (σ 4).2.1 12 = lN (scP c c.m)) : cC G l ad F R YX4_assemble (d + 1) [.ref (ad 4)] σ (fun r σ' => r = none ∧ kp [27, 32] σ σ' ∧ ∀ s, s < 100 → (σ' 32).2.1 s = iL (puP c s)) := by
  obtain ⟨h0, h1, h2, h3, h4, h5, h6, h7⟩ := hc
  have hsl := scP_le hok h0
  have loop : ∀ (u k : Nat) (σ1 : cZ) (M : xM) (N S : Nat), k + u = c.m → kp [27, 32] σ σ1 → (∀ s, s < 100 → (σ1 32).2.1 s = iL (puS c (16 * k) s)) → cA G ad F R σ1 M N S → xX G l YX4_assemble (d + 1) (cQ G ad F R (fun r σ' => r = none ∧ kp [27, 32] σ σ' ∧ ∀ s, s < 100 → (σ' 32).2.1 s = iL (puP c s))) 10 [(0, .ref (ad 4)), (1, .int (nI k))] [] M N S := by
    intro u
    induction u with
    | zero =>
      intro k σ1 M N S hk k1 k2 hM
      have e1 : σ1 1 = σ 1 := k1 1 (by decide)

      refine x_iload_n (q := 11) dX4_assemble_10 rfl rfl ?_
      refine x_aload_n (q := 12) dX4_assemble_11 rfl rfl ?_
      refine c_get (q := 15) (k := 4) (f := 0) hM rfl xclX4 fwX4_54 (by decide) dX4_assemble_12 rfl rfl ?_
      refine c_get (q := 18) (k := 1) (f := 6) hM rfl xclX1 fwX4_97 (by decide) dX4_assemble_15 rfl rfl ?_
      refine x_topi (y := nI c.m) (by rw [e1]; exact h1) ?_
      refine xn_icmp_ge (q := 21) 224 dX4_assemble_18 (by decide) rfl (by omega) (by omega) (fun hc18 => ?_) (fun hc18 => absurd hc18 (by omega))
      exact x_vret rfl dX4_assemble_224 (c_ret hM ⟨rfl, k1, fun s hs => by rw [k2 s hs, show k = c.m by omega]; rfl⟩)

    | succ u ih =>
      intro k σ0 M N S hk k0 k2 hM
      have hL := (hok.2 k (by omega)).1
      have hrt : rtP c k ≤ 1728 := Nat.le_trans (Nat.div_le_self _ _) hsl
      have mid : ∀ (v i : Nat) (σ1 : cZ) (M : xM) (N S : Nat), i + v = 4 → kp [27, 32] σ σ1 → (∀ j, j < 4 → (σ1 27).1 j = nI (coP c k j)) → (∀ s, s < 100 → (σ1 32).2.1 s = iL (puS c (16 * k + 4 * i) s)) → cA G ad F R σ1 M N S → xX G l YX4_assemble (d + 1) (cQ G ad F R (fun r σ' => r = none ∧ kp [27, 32] σ σ' ∧ ∀ s, s < 100 → (σ' 32).2.1 s = iL (puP c s))) 103 [(0, .ref (ad 4)), (1, .int (nI k)), (2, .long (lN (rtP c k))), (4, .int (nI i))] [] M N S := by
        intro v
        induction v with
        | zero =>
          intro i σ1 M N S hi k1 kc k2 hM

          refine x_iload (q := 105) dX4_assemble_103 rfl rfl ?_
          refine xn_iconst (q := 106) 4 dX4_assemble_105 rfl (by decide) ?_
          refine xn_icmp_ge (q := 109) 218 dX4_assemble_106 (by decide) rfl (by omega) (by omega) (fun hc106 => ?_) (fun hc106 => absurd hc106 (by omega))
          refine xn_iinc (q := 221) (ls' := [(0, _), (1, _), (2, _), (4, _)]) [1, 0, 2, 3] 1 dX4_assemble_218 rfl rfl (by decide) (by decide) rfl ?_
          refine x_goto 10 dX4_assemble_221 (by decide) ?_
          refine x_ls (ls' := [(0, _), (1, _)]) [0, 1] rfl ?_
          exact ih (k + 1) σ1 M N S (by omega) k1 (fun s hs => by rw [k2 s hs, show 16 * k + 4 * i = 16 * (k + 1) by omega]) hM

        | succ v ihm =>
          intro i σ1' M N S hi k1' kc' k2' hM
          have inner : ∀ (w j : Nat) (σ1 : cZ) (M : xM) (N S : Nat), j + w = 4 → kp [27, 32] σ σ1 → (∀ j, j < 4 → (σ1 27).1 j = nI (coP c k j)) → (∀ s, s < 100 → (σ1 32).2.1 s = iL (puS c (16 * k + 4 * i + j) s)) → cA G ad F R σ1 M N S → xX G l YX4_assemble (d + 1) (cQ G ad F R (fun r σ' => r = none ∧ kp [27, 32] σ σ' ∧ ∀ s, s < 100 → (σ' 32).2.1 s = iL (puP c s))) 112 [(0, .ref (ad 4)), (1, .int (nI k)), (2, .long (lN (rtP c k))), (4, .int (nI i)), (5, .int (nI j))] [] M N S := by
            intro w
            induction w with
            | zero =>
              intro j σ1 M N S hj k1 kc k2 hM

              refine x_iload (q := 114) dX4_assemble_112 rfl rfl ?_
              refine xn_iconst (q := 115) 4 dX4_assemble_114 rfl (by decide) ?_
              refine xn_icmp_ge (q := 118) 212 dX4_assemble_115 (by decide) rfl (by omega) (by omega) (fun hc115 => ?_) (fun hc115 => absurd hc115 (by omega))
              refine xn_iinc (q := 215) (ls' := [(0, _), (1, _), (2, _), (4, _), (5, _)]) [1, 2, 3, 0, 4] 1 dX4_assemble_212 rfl rfl (by decide) (by decide) rfl ?_
              refine x_goto 103 dX4_assemble_215 (by decide) ?_
              refine x_ls (ls' := [(0, _), (1, _), (2, _), (4, _)]) [0, 1, 2, 3] rfl ?_
              exact ihm (i + 1) σ1 M N S (by omega) k1 kc (fun s hs => by rw [k2 s hs, show 16 * k + 4 * i + j = 16 * k + 4 * (i + 1) by omega]) hM

            | succ w ihw =>
              intro j σ1 M N S hj k1 kc k2 hM
              have e15 : σ1 15 = σ 15 := k1 15 (by decide)
              have hci := coP_lt (c := c) (k := k) (by omega) i
              have hcj := coP_lt (c := c) (k := k) (by omega) j
              have hfz := facZ_bd (4 * i + j) (by omega)
              have s155 : ∀ (M : xM) (N S : Nat), cA G ad F R σ1 M N S → xX G l YX4_assemble (d + 1) (cQ G ad F R (fun r σ' => r = none ∧ kp [27, 32] σ σ' ∧ ∀ s, s < 100 → (σ' 32).2.1 s = iL (puP c s))) 155 [(0, .ref (ad 4)), (1, .int (nI k)), (2, .long (lN (rtP c k))), (4, .int (nI i)), (5, .int (nI j)), (6, .long (lN (pwP c k i j)))] [] M N S := by
                intro M N S hM

                refine x_aload_n (q := 156) dX4_assemble_155 rfl rfl ?_
                refine c_get (q := 159) (k := 4) (f := 6) hM rfl xclX4 fwX4_30 (by decide) dX4_assemble_156 rfl rfl ?_
                refine x_aload_n (q := 160) dX4_assemble_159 rfl rfl ?_
                refine c_get (q := 163) (k := 4) (f := 1) hM rfl xclX4 fwX4_9 (by decide) dX4_assemble_160 rfl rfl ?_
                refine x_iload (q := 165) dX4_assemble_163 rfl rfl ?_
                refine c_iald (q := 166) (k := 27) (n := 4) hM rfl (by decide) (by decide) dX4_assemble_165 rfl (by omega) ?_
                refine x_topi (y := nI (coP c k i)) (by exact kc i (by omega)) ?_
                refine xn_bipush (q := 168) 10 dX4_assemble_166 rfl (by decide) ?_
                refine xn_imul (q := 169) dX4_assemble_168 rfl ?_
                refine x_aload_n (q := 170) dX4_assemble_169 rfl rfl ?_
                refine c_get (q := 173) (k := 4) (f := 1) hM rfl xclX4 fwX4_9 (by decide) dX4_assemble_170 rfl rfl ?_
                refine x_iload (q := 175) dX4_assemble_173 rfl rfl ?_
                refine c_iald (q := 176) (k := 27) (n := 4) hM rfl (by decide) (by decide) dX4_assemble_175 rfl (by omega) ?_
                refine x_topi (y := nI (coP c k j)) (by exact kc j (by omega)) ?_
                refine xn_iadd (q := 177) dX4_assemble_176 rfl ?_
                refine x_dup2 (q := 178) dX4_assemble_177 rfl rfl rfl ?_
                refine c_lald (q := 179) (k := 32) (n := 100) hM rfl (by decide) (by decide) dX4_assemble_178 rfl (by omega) ?_
                refine x_topl (y := iL (puS c (16 * k + 4 * i + j) (coP c k i * 10 + coP c k j))) (by exact k2 _ (by omega)) ?_
                refine x_fac (q := 182) facw dX4_assemble_179 rfl (fun fa179 hfa179 => ?_)
                refine xn_iconst (q := 183) 4 dX4_assemble_182 rfl (by decide) ?_
                refine x_iload (q := 185) dX4_assemble_183 rfl rfl ?_
                refine xn_imul (q := 186) dX4_assemble_185 rfl ?_
                refine x_iload (q := 188) dX4_assemble_186 rfl rfl ?_
                refine xn_iadd (q := 189) dX4_assemble_188 rfl ?_
                refine x_facald (q := 190) hfa179 dX4_assemble_189 rfl (by omega) ?_
                refine x_topi (y := iI (facZ (4 * i + j))) (by rfl) ?_
                refine xi_i2l (q := 191) dX4_assemble_190 rfl rfl (by omega) (by omega) ?_
                refine x_aload_n (q := 192) dX4_assemble_191 rfl rfl ?_
                refine c_get (q := 195) (k := 4) (f := 0) hM rfl xclX4 fwX4_54 (by decide) dX4_assemble_192 rfl rfl ?_
                refine c_get (q := 198) (k := 1) (f := 1) hM rfl xclX1 fwX4_128 (by decide) dX4_assemble_195 rfl rfl ?_
                refine x_iload_n (q := 199) dX4_assemble_198 rfl rfl ?_
                refine c_lald (q := 200) (k := 15) (n := 3) hM rfl (by decide) (by decide) dX4_assemble_199 rfl (by omega) ?_
                refine x_topl (y := lN (c.E k)) (by rw [e15]; exact h3 k (by omega)) ?_
                refine xi_lmul (q := 201) dX4_assemble_200 rfl rfl (lN_i' _) ?_
                refine x_lload (q := 203) dX4_assemble_201 rfl rfl ?_
                refine xi_lmul (q := 204) dX4_assemble_203 rfl rfl (lN_i' _) ?_
                refine xi_ladd (q := 205) dX4_assemble_204 rfl rfl rfl ?_
                refine c_last (q := 206) (k := 32) (n := 100) hM (by decide) (fun _ => rfl) (by decide) dX4_assemble_205 rfl (by omega) (fun M σ205 a205 e205 b205 hM => ?_)
                refine xn_iinc (q := 209) (ls' := [(0, _), (1, _), (2, _), (4, _), (5, _), (6, _)]) [1, 2, 3, 4, 0, 5] 1 dX4_assemble_206 rfl rfl (by decide) (by decide) rfl ?_
                refine x_goto 112 dX4_assemble_209 (by decide) ?_
                refine x_ls (ls' := [(0, _), (1, _), (2, _), (4, _), (5, _)]) [0, 1, 2, 3, 4] rfl ?_
                refine ihw (j + 1) σ205 M N S (by omega) (k1.trans (a205.mono (by decide))) (fun q hq => by rw [a205 27 (by decide)]; exact kc q hq) (fun s hs => ?_) hM
                rw [show 16 * k + 4 * i + (j + 1) = 16 * k + 4 * i + j + 1 by omega, puS_s (by omega) (by omega), e205]
                by_cases es : s = coP c k i * 10 + coP c k j
                · rw [es, addT_s]; simp [vp_updL]
                · rw [addT_n es]; simp only [vp_updL, if_neg es]; exact k2 s hs

              refine x_iload (q := 114) dX4_assemble_112 rfl rfl ?_
              refine xn_iconst (q := 115) 4 dX4_assemble_114 rfl (by decide) ?_
              refine xn_icmp_ge (q := 118) 212 dX4_assemble_115 (by decide) rfl (by omega) (by omega) (fun hc115 => absurd hc115 (by omega)) (fun hc115 => ?_)
              refine x_lload_n (q := 119) dX4_assemble_118 rfl rfl ?_
              refine x_lstore (q := 121) (ls' := [(0, _), (1, _), (2, _), (4, _), (5, _), (6, _)]) [1, 2, 3, 4, 5, 0] dX4_assemble_119 rfl (by decide) rfl ?_
              refine x_lload (q := 123) dX4_assemble_121 rfl rfl ?_
              refine x_iload (q := 125) dX4_assemble_123 rfl rfl ?_
              refine xn_iconst (q := 126) 2 dX4_assemble_125 rfl (by decide) ?_
              refine xn_irem (q := 127) dX4_assemble_126 rfl (by omega) (by decide) (by decide) ?_
              refine xn_if_ne (q := 130) 134 dX4_assemble_127 (by decide) rfl (by omega) (fun hc127 => ?_) (fun hc127 => ?_)
              · refine xn_lconst (q := 135) 1 dX4_assemble_134 rfl (by decide) ?_
                refine xn_lmul (q := 136) dX4_assemble_135 rfl ?_
                refine x_lstore (q := 138) (ls' := [(0, _), (1, _), (2, _), (4, _), (5, _), (6, _)]) [1, 2, 3, 4, 5, 0] dX4_assemble_136 rfl (by decide) rfl ?_
                refine x_lload (q := 140) dX4_assemble_138 rfl rfl ?_
                refine x_iload (q := 142) dX4_assemble_140 rfl rfl ?_
                refine xn_iconst (q := 143) 2 dX4_assemble_142 rfl (by decide) ?_
                refine xn_irem (q := 144) dX4_assemble_143 rfl (by omega) (by decide) (by decide) ?_
                refine xn_if_ne (q := 147) 151 dX4_assemble_144 (by decide) rfl (by omega) (fun hc144 => ?_) (fun hc144 => ?_)
                · refine xn_lconst (q := 152) 1 dX4_assemble_151 rfl (by decide) ?_
                  refine xn_lmul (q := 153) dX4_assemble_152 rfl ?_
                  refine x_lstore (q := 155) (ls' := [(0, _), (1, _), (2, _), (4, _), (5, _), (6, _)]) [1, 2, 3, 4, 5, 0] dX4_assemble_153 rfl (by decide) rfl ?_
                  rw [show rtP c k * 1 * 1 = pwP c k i j by unfold pwP; rw [if_neg (by omega), if_neg (by omega)]]
                  exact s155 M N S hM
                · refine x_lload_n (q := 148) dX4_assemble_147 rfl rfl ?_
                  refine x_goto 152 dX4_assemble_148 (by decide) ?_
                  refine xn_lmul (q := 153) dX4_assemble_152 rfl ?_
                  refine x_lstore (q := 155) (ls' := [(0, _), (1, _), (2, _), (4, _), (5, _), (6, _)]) [1, 2, 3, 4, 5, 0] dX4_assemble_153 rfl (by decide) rfl ?_
                  rw [show rtP c k * 1 * rtP c k = pwP c k i j by unfold pwP; rw [if_neg (by omega), if_pos (by omega)]]
                  exact s155 M N S hM
              · refine x_lload_n (q := 131) dX4_assemble_130 rfl rfl ?_
                refine x_goto 135 dX4_assemble_131 (by decide) ?_
                refine xn_lmul (q := 136) dX4_assemble_135 rfl ?_
                refine x_lstore (q := 138) (ls' := [(0, _), (1, _), (2, _), (4, _), (5, _), (6, _)]) [1, 2, 3, 4, 5, 0] dX4_assemble_136 rfl (by decide) rfl ?_
                refine x_lload (q := 140) dX4_assemble_138 rfl rfl ?_
                refine x_iload (q := 142) dX4_assemble_140 rfl rfl ?_
                refine xn_iconst (q := 143) 2 dX4_assemble_142 rfl (by decide) ?_
                refine xn_irem (q := 144) dX4_assemble_143 rfl (by omega) (by decide) (by decide) ?_
                refine xn_if_ne (q := 147) 151 dX4_assemble_144 (by decide) rfl (by omega) (fun hc144 => ?_) (fun hc144 => ?_)
                · refine xn_lconst (q := 152) 1 dX4_assemble_151 rfl (by decide) ?_
                  refine xn_lmul (q := 153) dX4_assemble_152 rfl ?_
                  refine x_lstore (q := 155) (ls' := [(0, _), (1, _), (2, _), (4, _), (5, _), (6, _)]) [1, 2, 3, 4, 5, 0] dX4_assemble_153 rfl (by decide) rfl ?_
                  rw [show rtP c k * rtP c k * 1 = pwP c k i j by unfold pwP; rw [if_pos (by omega), if_neg (by omega)]]
                  exact s155 M N S hM
                · refine x_lload_n (q := 148) dX4_assemble_147 rfl rfl ?_
                  refine x_goto 152 dX4_assemble_148 (by decide) ?_
                  refine xn_lmul (q := 153) dX4_assemble_152 rfl ?_
                  refine x_lstore (q := 155) (ls' := [(0, _), (1, _), (2, _), (4, _), (5, _), (6, _)]) [1, 2, 3, 4, 5, 0] dX4_assemble_153 rfl (by decide) rfl ?_
                  rw [show rtP c k * rtP c k * rtP c k = pwP c k i j by unfold pwP; rw [if_pos (by omega), if_pos (by omega)]]
                  exact s155 M N S hM

          refine x_iload (q := 105) dX4_assemble_103 rfl rfl ?_
          refine xn_iconst (q := 106) 4 dX4_assemble_105 rfl (by decide) ?_
          refine xn_icmp_ge (q := 109) 218 dX4_assemble_106 (by decide) rfl (by omega) (by omega) (fun hc106 => absurd hc106 (by omega)) (fun hc106 => ?_)
          refine xn_iconst (q := 110) 0 dX4_assemble_109 rfl (by decide) ?_
          refine x_istore (q := 112) (ls' := [(0, _), (1, _), (2, _), (4, _), (5, _)]) [1, 2, 3, 4, 0] dX4_assemble_110 rfl (by decide) rfl ?_
          exact inner 4 0 σ1' M N S (by decide) k1' kc' k2' hM

      have e1 : σ0 1 = σ 1 := k0 1 (by decide)
      have e28 : σ0 28 = σ 28 := k0 28 (by decide)
      have e14 : σ0 14 = σ 14 := k0 14 (by decide)
      have e4 : σ0 4 = σ 4 := k0 4 (by decide)

      refine x_iload_n (q := 11) dX4_assemble_10 rfl rfl ?_
      refine x_aload_n (q := 12) dX4_assemble_11 rfl rfl ?_
      refine c_get (q := 15) (k := 4) (f := 0) hM rfl xclX4 fwX4_54 (by decide) dX4_assemble_12 rfl rfl ?_
      refine c_get (q := 18) (k := 1) (f := 6) hM rfl xclX1 fwX4_97 (by decide) dX4_assemble_15 rfl rfl ?_
      refine x_topi (y := nI c.m) (by rw [e1]; exact h1) ?_
      refine xn_icmp_ge (q := 21) 224 dX4_assemble_18 (by decide) rfl (by omega) (by omega) (fun hc18 => absurd hc18 (by omega)) (fun hc18 => ?_)
      refine x_aload_n (q := 22) dX4_assemble_21 rfl rfl ?_
      refine c_get (q := 25) (k := 4) (f := 1) hM rfl xclX4 fwX4_9 (by decide) dX4_assemble_22 rfl rfl ?_
      refine xn_iconst (q := 26) 0 dX4_assemble_25 rfl (by decide) ?_
      refine x_iload_n (q := 27) dX4_assemble_26 rfl rfl ?_
      refine c_iast (q := 28) (k := 27) (n := 4) hM (by decide) (fun _ => rfl) (by decide) dX4_assemble_27 rfl (by omega) (fun M σ27 a27 e27 b27 hM => ?_)
      refine x_aload_n (q := 29) dX4_assemble_28 rfl rfl ?_
      refine c_get (q := 32) (k := 4) (f := 1) hM rfl xclX4 fwX4_9 (by decide) dX4_assemble_29 rfl rfl ?_
      refine xn_iconst (q := 33) 1 dX4_assemble_32 rfl (by decide) ?_
      refine x_aload_n (q := 34) dX4_assemble_33 rfl rfl ?_
      refine c_get (q := 37) (k := 4) (f := 2) hM rfl xclX4 fwX4_17 (by decide) dX4_assemble_34 rfl rfl ?_
      refine xn_iconst (q := 38) 2 dX4_assemble_37 rfl (by decide) ?_
      refine x_iload_n (q := 39) dX4_assemble_38 rfl rfl ?_
      refine xn_imul (q := 40) dX4_assemble_39 rfl ?_
      refine c_iald (q := 41) (k := 28) (n := 6) hM rfl (by decide) (by decide) dX4_assemble_40 rfl (by omega) ?_
      refine x_topi (y := nI (esP c (2 * k))) (by rw [a27 28 (by decide), e28]; exact hes _ (by omega)) ?_
      refine c_iast (q := 42) (k := 27) (n := 4) hM (by decide) (fun _ => rfl) (by decide) dX4_assemble_41 rfl (by omega) (fun M σ41 a41 e41 b41 hM => ?_)
      refine x_aload_n (q := 43) dX4_assemble_42 rfl rfl ?_
      refine c_get (q := 46) (k := 4) (f := 1) hM rfl xclX4 fwX4_9 (by decide) dX4_assemble_43 rfl rfl ?_
      refine xn_iconst (q := 47) 2 dX4_assemble_46 rfl (by decide) ?_
      refine x_iload_n (q := 48) dX4_assemble_47 rfl rfl ?_
      refine xn_iconst (q := 49) 1 dX4_assemble_48 rfl (by decide) ?_
      refine xn_iadd (q := 50) dX4_assemble_49 rfl ?_
      refine c_iast (q := 51) (k := 27) (n := 4) hM (by decide) (fun _ => rfl) (by decide) dX4_assemble_50 rfl (by omega) (fun M σ50 a50 e50 b50 hM => ?_)
      refine x_aload_n (q := 52) dX4_assemble_51 rfl rfl ?_
      refine c_get (q := 55) (k := 4) (f := 1) hM rfl xclX4 fwX4_9 (by decide) dX4_assemble_52 rfl rfl ?_
      refine xn_iconst (q := 56) 3 dX4_assemble_55 rfl (by decide) ?_
      refine x_aload_n (q := 57) dX4_assemble_56 rfl rfl ?_
      refine c_get (q := 60) (k := 4) (f := 2) hM rfl xclX4 fwX4_17 (by decide) dX4_assemble_57 rfl rfl ?_
      refine xn_iconst (q := 61) 2 dX4_assemble_60 rfl (by decide) ?_
      refine x_iload_n (q := 62) dX4_assemble_61 rfl rfl ?_
      refine xn_imul (q := 63) dX4_assemble_62 rfl ?_
      refine xn_iconst (q := 64) 1 dX4_assemble_63 rfl (by decide) ?_
      refine xn_iadd (q := 65) dX4_assemble_64 rfl ?_
      refine c_iald (q := 66) (k := 28) (n := 6) hM rfl (by decide) (by decide) dX4_assemble_65 rfl (by omega) ?_
      refine x_topi (y := nI (esP c (2 * k + 1))) (by rw [a50 28 (by decide), a41 28 (by decide), a27 28 (by decide), e28]; exact hes _ (by omega)) ?_
      refine c_iast (q := 67) (k := 27) (n := 4) hM (by decide) (fun _ => rfl) (by decide) dX4_assemble_66 rfl (by omega) (fun M σ66 a66 e66 b66 hM => ?_)
      refine x_aload_n (q := 68) dX4_assemble_67 rfl rfl ?_
      refine c_get (q := 71) (k := 4) (f := 0) hM rfl xclX4 fwX4_54 (by decide) dX4_assemble_68 rfl rfl ?_
      refine c_get (q := 74) (k := 1) (f := 0) hM rfl xclX1 fwX4_101 (by decide) dX4_assemble_71 rfl rfl ?_
      refine x_iload_n (q := 75) dX4_assemble_74 rfl rfl ?_
      refine c_lald (q := 76) (k := 14) (n := 3) hM rfl (by decide) (by decide) dX4_assemble_75 rfl (by omega) ?_
      refine x_topl (y := lN (c.L k)) (by rw [a66 14 (by decide), a50 14 (by decide), a41 14 (by decide), a27 14 (by decide), e14]; exact h2 k (by omega)) ?_
      refine xn_lconst (q := 77) 0 dX4_assemble_76 rfl (by decide) ?_
      refine xn_lcmp_le (q1 := 78) (q := 81) 98 dX4_assemble_77 rfl dX4_assemble_78 (by decide) rfl (by omega) (by omega) (fun hc77 => absurd hc77 (by omega)) (fun hc77 => ?_)
      refine x_aload_n (q := 82) dX4_assemble_81 rfl rfl ?_
      refine c_get (q := 85) (k := 4) (f := 12) hM rfl xclX4 fwX4_81 (by decide) dX4_assemble_82 rfl rfl ?_
      refine x_topl (y := lN (scP c c.m)) (by rw [a66 4 (by decide), a50 4 (by decide), a41 4 (by decide), a27 4 (by decide), e4]; exact hsc) ?_
      refine x_aload_n (q := 86) dX4_assemble_85 rfl rfl ?_
      refine c_get (q := 89) (k := 4) (f := 0) hM rfl xclX4 fwX4_54 (by decide) dX4_assemble_86 rfl rfl ?_
      refine c_get (q := 92) (k := 1) (f := 0) hM rfl xclX1 fwX4_101 (by decide) dX4_assemble_89 rfl rfl ?_
      refine x_iload_n (q := 93) dX4_assemble_92 rfl rfl ?_
      refine c_lald (q := 94) (k := 14) (n := 3) hM rfl (by decide) (by decide) dX4_assemble_93 rfl (by omega) ?_
      refine x_topl (y := lN (c.L k)) (by rw [a66 14 (by decide), a50 14 (by decide), a41 14 (by decide), a27 14 (by decide), e14]; exact h2 k (by omega)) ?_
      refine xn_ldiv (q := 95) dX4_assemble_94 rfl (by omega) (by omega) (by omega) ?_
      refine x_goto 99 dX4_assemble_95 (by decide) ?_
      refine x_lstore_n (q := 100) (ls' := [(0, _), (1, _), (2, _)]) [1, 2, 0] dX4_assemble_99 rfl (by decide) rfl ?_
      refine xn_iconst (q := 101) 0 dX4_assemble_100 rfl (by decide) ?_
      refine x_istore (q := 103) (ls' := [(0, _), (1, _), (2, _), (4, _)]) [1, 2, 3, 0] dX4_assemble_101 rfl (by decide) rfl ?_
      have kz : kp [27] σ0 σ66 := a27.trans (a41.trans (a50.trans a66))
      refine mid 4 0 σ66 M N S (by decide) (k0.trans (kz.mono (by decide))) (fun j hj => ?_) (fun s hs => by rw [kz 32 (by decide)]; exact k2 s hs) hM
      rw [e66, e50, e41, e27]
      rcases (by omega : j = 0 ∨ j = 1 ∨ j = 2 ∨ j = 3) with rfl | rfl | rfl | rfl <;> simp [upd, coP]

  refine cC.of (ls := [(0, .ref (ad 4))]) (by decide) (Nat.le_of_ble_eq_true rfl) rfl fun M N S hM => ?_

  refine x_aload_n (q := 1) dX4_assemble_0 rfl rfl ?_
  refine c_get (q := 4) (k := 4) (f := 6) hM rfl xclX4 fwX4_30 (by decide) dX4_assemble_1 rfl rfl ?_
  refine xn_lconst (q := 5) 0 dX4_assemble_4 rfl (by decide) ?_
  refine c_callS (q := 8) (As := [_, _]) hM imJ7_fill_d0a16 isJ7_fill_d0a16 mwX4_119 dX4_assemble_5 rfl rfl rfl (Nat.le_of_ble_eq_true rfl) ?_
  refine (b_fill G l ad F R d σ 32 100 (lN 0) (by decide) (fun _ => rfl) (by decide)).mono (fun x9 σ5 hp => ?_)
  obtain ⟨rfl, k5, f5, g5⟩ := hp
  intro M N S hM
  show xX G l _ (d + 1) _ _ _ _ M N S
  refine xn_iconst (q := 9) 0 dX4_assemble_8 rfl (by decide) ?_
  refine x_istore_n (q := 10) (ls' := [(0, _), (1, _)]) [1, 0] dX4_assemble_9 rfl (by decide) rfl ?_
  exact loop c.m 0 σ5 M N S (by omega) (k5.mono (by decide)) (fun s hs => f5 s hs) hM

end XB9
