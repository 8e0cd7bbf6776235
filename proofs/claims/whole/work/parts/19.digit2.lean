section XD2
theorem dg_top {V v k : Nat} (hV : V < B9 ^ k) (hv : v < B9) : dg (V + v * B9 ^ k) k = v ∧ V + v * B9 ^ k < B9 ^ (k + 1) := by
  constructor
  · unfold dg
    rw [Nat.add_mul_div_right _ _ (B9_pos k), Nat.div_eq_of_lt hV, Nat.zero_add, Nat.mod_eq_of_lt hv]
  · rw [B9_succ]
    have h1 : (v + 1) * B9 ^ k ≤ B9 * B9 ^ k := Nat.mul_le_mul_right _ hv
    rw [Nat.add_mul, Nat.one_mul] at h1
    rw [Nat.mul_comm (B9 ^ k)]
    omega
set_option maxRecDepth 100000 in
set_option maxHeartbeats 4000000 in
theorem c_dig_2 (G : xG) (l : Launch) (o : Nat) (as : Nat → Nat) (M0 : xM) (N S : Nat) (d : Nat) (a t0 n g X D : Nat) (ha : a < 16) (ha15 : a ≠ 15) (ht0 : 400 * a ≤ t0) (ht1 : t0 + n < 400 * a + 400) (hg : g < 1000000000) (hDn : D < B9 ^ n) (σ : mS) (hlD : ∀ k, k < n → σ.2.1 14 (6000 + k) = nI (dg D k)) (Q : xPost)
    (hx : ∀ c V σ' M, V < B9 ^ (n + 1) → V + g * (D % B9 ^ (n + 1)) = X % B9 ^ (n + 1) + c * B9 ^ (n + 1) → c ≤ 1000000000 → keep a σ σ' → σ'.2.1 15 = σ.2.1 15 → σ'.2.1 16 = σ.2.1 16 → (∀ i, (i < t0 ∨ t0 + n < i) → σ'.2.1 14 i = σ.2.1 14 i) → (∀ j, j < n + 1 → σ'.2.1 14 (t0 + j) = nI (dg V j)) → mAt o as σ' M0 M → xX G l YX9_digit d Q 244 [(0, .ref o), (1, .int (nI t0)), (2, .int (nI n)), (9, .long (lN g)), (13, .long (lN c)), (15, .int (nI (n + 1)))] [] M N S) :
    ∀ (u k : Nat), k + u = n + 1 → ∀ c V σ' M, V < B9 ^ k → V + g * (D % B9 ^ k) = X % B9 ^ k + c * B9 ^ k → c ≤ 1000000000 → keep a σ σ' → σ'.2.1 15 = σ.2.1 15 → σ'.2.1 16 = σ.2.1 16 → (∀ i, (i < t0 ∨ t0 + n < i) → σ'.2.1 14 i = σ.2.1 14 i) → (∀ j, j < k → σ'.2.1 14 (t0 + j) = nI (dg V j)) → (∀ j, k ≤ j → j ≤ n → σ'.2.1 14 (t0 + j) = nI (dg X j)) → mAt o as σ' M0 M → xX G l YX9_digit d Q 134 [(0, .ref o), (1, .int (nI t0)), (2, .int (nI n)), (9, .long (lN g)), (13, .long (lN c)), (15, .int (nI k))] [] M N S := by
  intro u
  induction u with
  | zero =>
    intro k hk0 c V σ' M hV hVe hc hk hz hs hw h1 h2 hM
    obtain rfl : k = n + 1 := by omega
    refine x_iload (q := 136) dX9_digit_134 rfl rfl ?_
    refine x_iload_n (q := 137) dX9_digit_136 rfl rfl ?_
    refine xn_icmp_gt (q := 140) 244 dX9_digit_137 (by decide) rfl (by omega) (by omega) (fun hc137 => ?_) (fun hc137 => absurd hc137 (by omega))
    exact hx c V σ' M hV hVe hc hk hz hs hw h1 hM
  | succ u ih =>
    intro k hk0 c V σ' M hV hVe hc hk hz hs hw h1 h2 hM
    have dd : dg D k < 1000000000 := dg_lt D k
    have dx : dg X k < 1000000000 := dg_lt X k
    have hm := mul_lt' hg dd
    have hlX' : σ'.2.1 14 (t0 + k) = nI (dg X k) := h2 k (Nat.le_refl _) (by omega)
    have hlD' : k < n → σ'.2.1 14 (6000 + k) = nI (dg D k) := fun h => (hw _ (by omega)).trans (hlD k h)
    have hD0 : n ≤ k → dg D k = 0 := fun h => dg_hi (Nat.lt_of_lt_of_le hDn (B9_mono h))
    refine x_iload (q := 136) dX9_digit_134 rfl rfl ?_
    refine x_iload_n (q := 137) dX9_digit_136 rfl rfl ?_
    refine xn_icmp_gt (q := 140) 244 dX9_digit_137 (by decide) rfl (by omega) (by omega) (fun hc137 => absurd hc137 (by omega)) (fun hc137 => ?_)
    refine x_iload (q := 142) dX9_digit_140 rfl rfl ?_
    refine x_iload_n (q := 143) dX9_digit_142 rfl rfl ?_
    refine xn_icmp_ge (q := 146) 164 dX9_digit_143 (by decide) rfl (by omega) (by omega) (fun hc143 => ?_) (fun hc143 => ?_)
    · refine xn_lconst (q := 165) 0 dX9_digit_164 rfl (by decide) ?_
      refine x_lload (q := 167) dX9_digit_165 rfl rfl ?_
      refine xn_ladd (q := 168) dX9_digit_167 rfl ?_
      refine x_lstore (q := 170) (ls' := [(0, _), (1, _), (2, _), (9, _), (13, _), (15, _), (16, _)]) [1, 2, 3, 4, 5, 6, 0] dX9_digit_168 rfl (by decide) rfl ?_
      refine x_aload_n (q := 171) dX9_digit_170 rfl rfl ?_
      refine m_get (q := 174) hM 14 fwX9_41 (by decide) dX9_digit_171 rfl rfl ?_
      refine x_iload_n (q := 175) dX9_digit_174 rfl rfl ?_
      refine x_iload (q := 177) dX9_digit_175 rfl rfl ?_
      refine xn_iadd (q := 178) dX9_digit_177 rfl ?_
      refine m_iald (q := 179) hM (n := 6400) (by decide) dX9_digit_178 rfl (by omega) ?_
      rw [hlX']
      refine xn_i2l (q := 180) dX9_digit_179 rfl (by omega) ?_
      refine x_lload (q := 182) dX9_digit_180 rfl rfl ?_
      refine xn_ldc2 (q := 185) 1000000000 dX9_digit_182 rfl cwX9_100 ?_
      refine xn_lrem (q := 186) dX9_digit_185 rfl (by omega) (by omega) (by omega) ?_
      refine xi_lsub (q := 187) dX9_digit_186 rfl (lN_i' _) (lN_i' _) ?_
      refine x_lstore (q := 189) (ls' := [(0, _), (1, _), (2, _), (9, _), (13, _), (15, _), (16, _), (18, _)]) [1, 2, 3, 4, 5, 6, 7, 0] dX9_digit_187 rfl (by decide) rfl ?_
      refine x_lload (q := 191) dX9_digit_189 rfl rfl ?_
      refine xn_ldc2 (q := 194) 1000000000 dX9_digit_191 rfl cwX9_100 ?_
      refine xn_ldiv (q := 195) dX9_digit_194 rfl (by omega) (by omega) (by omega) ?_
      refine x_lload (q := 197) dX9_digit_195 rfl rfl ?_
      refine xn_lconst (q := 198) 0 dX9_digit_197 rfl (by decide) ?_
      refine xi_lcmp_ge (q1 := 199) (q := 202) 206 dX9_digit_198 rfl dX9_digit_199 (by decide) rfl rfl (lN_i' _) (by omega) (by omega) (by omega) (by omega) (fun hc198 => ?_) (fun hc198 => ?_)
      · refine xn_lconst (q := 207) 0 dX9_digit_206 rfl (by decide) ?_
        refine xn_ladd (q := 208) dX9_digit_207 rfl ?_
        refine x_lstore (q := 210) (ls' := [(0, _), (1, _), (2, _), (9, _), (13, _), (15, _), (16, _), (18, _)]) [1, 2, 3, 4, 0, 5, 6, 7] dX9_digit_208 rfl (by decide) rfl ?_
        refine x_aload_n (q := 211) dX9_digit_210 rfl rfl ?_
        refine m_get (q := 214) hM 14 fwX9_41 (by decide) dX9_digit_211 rfl rfl ?_
        refine x_iload_n (q := 215) dX9_digit_214 rfl rfl ?_
        refine x_iload (q := 217) dX9_digit_215 rfl rfl ?_
        refine xn_iadd (q := 218) dX9_digit_217 rfl ?_
        refine x_lload (q := 220) dX9_digit_218 rfl rfl ?_
        refine xn_lconst (q := 221) 0 dX9_digit_220 rfl (by decide) ?_
        refine xi_lcmp_ge (q1 := 222) (q := 225) 234 dX9_digit_221 rfl dX9_digit_222 (by decide) rfl rfl (lN_i' _) (by omega) (by omega) (by omega) (by omega) (fun hc221 => ?_) (fun hc221 => ?_)
        · refine x_lload (q := 236) dX9_digit_234 rfl rfl ?_
          refine xi_l2i (q := 237) dX9_digit_236 rfl rfl (by omega) (by omega) ?_
          refine m_limb (q := 238) hM a dX9_digit_237 rfl (by omega) (by omega) (by omega) (fun M σ237 k237 e237 f237 g237 i237 hM => ?_)
          refine xn_iinc (q := 241) (ls' := [(0, _), (1, _), (2, _), (9, _), (13, _), (15, _), (16, _), (18, _)]) [1, 2, 3, 4, 5, 0, 6, 7] 1 dX9_digit_238 rfl rfl (by decide) (by decide) rfl ?_
          refine x_goto 134 dX9_digit_241 (by decide) ?_
          refine x_ls (ls' := [(0, _), (1, _), (2, _), (9, _), (13, _), (15, _)]) [0, 1, 2, 3, 4, 5] rfl ?_
          have ev : ∀ tk v, tk = g * dg D k + c → v + tk = dg X k + (tk / 1000000000 + 0) * 1000000000 → v < 1000000000 → σ237.2.1 14 (t0 + k) = nI v → xX G l YX9_digit d Q 134 [(0, .ref o), (1, .int (nI t0)), (2, .int (nI n)), (9, .long (lN g)), (13, .long (lN (tk / 1000000000 + 0))), (15, .int (nI (k + 1)))] [] M N S := by
            intro tk v htk hv hv9 e237'
            obtain ⟨t1, t2⟩ := dg_top hV hv9
            refine ih (k + 1) (by omega) _ (V + v * B9 ^ k) σ237 M t2 (kd_step hVe htk hv) (by omega) (hk.trans k237) (g237.trans hz) (i237.trans hs) (fun i hi => (f237 i (by omega)).trans (hw i hi)) (fun j hj => ?_) (fun j hj hj2 => ?_) hM
            · by_cases e : j = k
              · rw [e, t1]; exact e237'
              · rw [f237 _ (by omega), h1 j (by omega)]; exact congrArg nI (dg_add_mul (by omega)).symm
            · rw [f237 _ (by omega)]; exact h2 j (by omega) hj2
          first
          | exact ev (g * dg D k + c) (dg X k - (g * dg D k + c) % 1000000000) rfl (by omega) (by omega) (by rw [e237, nI_i]; exact congrArg iI (by omega))
          | exact ev (0 + c) (dg X k - (0 + c) % 1000000000) (by rw [hD0 hc143, Nat.mul_zero]) (by omega) (by omega) (by rw [e237, nI_i]; exact congrArg iI (by omega))
          | (exfalso; omega)
        · refine x_lload (q := 227) dX9_digit_225 rfl rfl ?_
          refine xn_ldc2 (q := 230) 1000000000 dX9_digit_227 rfl cwX9_100 ?_
          refine xi_ladd (q := 231) dX9_digit_230 rfl rfl (lN_i' _) ?_
          refine x_goto 236 dX9_digit_231 (by decide) ?_
          refine xi_l2i (q := 237) dX9_digit_236 rfl rfl (by omega) (by omega) ?_
          refine m_limb (q := 238) hM a dX9_digit_237 rfl (by omega) (by omega) (by omega) (fun M σ237 k237 e237 f237 g237 i237 hM => ?_)
          refine xn_iinc (q := 241) (ls' := [(0, _), (1, _), (2, _), (9, _), (13, _), (15, _), (16, _), (18, _)]) [1, 2, 3, 4, 5, 0, 6, 7] 1 dX9_digit_238 rfl rfl (by decide) (by decide) rfl ?_
          refine x_goto 134 dX9_digit_241 (by decide) ?_
          refine x_ls (ls' := [(0, _), (1, _), (2, _), (9, _), (13, _), (15, _)]) [0, 1, 2, 3, 4, 5] rfl ?_
          have ev : ∀ tk v, tk = g * dg D k + c → v + tk = dg X k + (tk / 1000000000 + 0) * 1000000000 → v < 1000000000 → σ237.2.1 14 (t0 + k) = nI v → xX G l YX9_digit d Q 134 [(0, .ref o), (1, .int (nI t0)), (2, .int (nI n)), (9, .long (lN g)), (13, .long (lN (tk / 1000000000 + 0))), (15, .int (nI (k + 1)))] [] M N S := by
            intro tk v htk hv hv9 e237'
            obtain ⟨t1, t2⟩ := dg_top hV hv9
            refine ih (k + 1) (by omega) _ (V + v * B9 ^ k) σ237 M t2 (kd_step hVe htk hv) (by omega) (hk.trans k237) (g237.trans hz) (i237.trans hs) (fun i hi => (f237 i (by omega)).trans (hw i hi)) (fun j hj => ?_) (fun j hj hj2 => ?_) hM
            · by_cases e : j = k
              · rw [e, t1]; exact e237'
              · rw [f237 _ (by omega), h1 j (by omega)]; exact congrArg nI (dg_add_mul (by omega)).symm
            · rw [f237 _ (by omega)]; exact h2 j (by omega) hj2
          first
          | exact ev (g * dg D k + c) (dg X k - (g * dg D k + c) % 1000000000) rfl (by omega) (by omega) (by rw [e237, nI_i]; exact congrArg iI (by omega))
          | exact ev (0 + c) (dg X k - (0 + c) % 1000000000) (by rw [hD0 hc143, Nat.mul_zero]) (by omega) (by omega) (by rw [e237, nI_i]; exact congrArg iI (by omega))
          | (exfalso; omega)
      · refine xn_lconst (q := 203) 1 dX9_digit_202 rfl (by decide) ?_
        refine x_goto 207 dX9_digit_203 (by decide) ?_
        refine xn_ladd (q := 208) dX9_digit_207 rfl ?_
        refine x_lstore (q := 210) (ls' := [(0, _), (1, _), (2, _), (9, _), (13, _), (15, _), (16, _), (18, _)]) [1, 2, 3, 4, 0, 5, 6, 7] dX9_digit_208 rfl (by decide) rfl ?_
        refine x_aload_n (q := 211) dX9_digit_210 rfl rfl ?_
        refine m_get (q := 214) hM 14 fwX9_41 (by decide) dX9_digit_211 rfl rfl ?_
        refine x_iload_n (q := 215) dX9_digit_214 rfl rfl ?_
        refine x_iload (q := 217) dX9_digit_215 rfl rfl ?_
        refine xn_iadd (q := 218) dX9_digit_217 rfl ?_
        refine x_lload (q := 220) dX9_digit_218 rfl rfl ?_
        refine xn_lconst (q := 221) 0 dX9_digit_220 rfl (by decide) ?_
        refine xi_lcmp_ge (q1 := 222) (q := 225) 234 dX9_digit_221 rfl dX9_digit_222 (by decide) rfl rfl (lN_i' _) (by omega) (by omega) (by omega) (by omega) (fun hc221 => ?_) (fun hc221 => ?_)
        · refine x_lload (q := 236) dX9_digit_234 rfl rfl ?_
          refine xi_l2i (q := 237) dX9_digit_236 rfl rfl (by omega) (by omega) ?_
          refine m_limb (q := 238) hM a dX9_digit_237 rfl (by omega) (by omega) (by omega) (fun M σ237 k237 e237 f237 g237 i237 hM => ?_)
          refine xn_iinc (q := 241) (ls' := [(0, _), (1, _), (2, _), (9, _), (13, _), (15, _), (16, _), (18, _)]) [1, 2, 3, 4, 5, 0, 6, 7] 1 dX9_digit_238 rfl rfl (by decide) (by decide) rfl ?_
          refine x_goto 134 dX9_digit_241 (by decide) ?_
          refine x_ls (ls' := [(0, _), (1, _), (2, _), (9, _), (13, _), (15, _)]) [0, 1, 2, 3, 4, 5] rfl ?_
          have ev : ∀ tk v, tk = g * dg D k + c → v + tk = dg X k + (tk / 1000000000 + 1) * 1000000000 → v < 1000000000 → σ237.2.1 14 (t0 + k) = nI v → xX G l YX9_digit d Q 134 [(0, .ref o), (1, .int (nI t0)), (2, .int (nI n)), (9, .long (lN g)), (13, .long (lN (tk / 1000000000 + 1))), (15, .int (nI (k + 1)))] [] M N S := by
            intro tk v htk hv hv9 e237'
            obtain ⟨t1, t2⟩ := dg_top hV hv9
            refine ih (k + 1) (by omega) _ (V + v * B9 ^ k) σ237 M t2 (kd_step hVe htk hv) (by omega) (hk.trans k237) (g237.trans hz) (i237.trans hs) (fun i hi => (f237 i (by omega)).trans (hw i hi)) (fun j hj => ?_) (fun j hj hj2 => ?_) hM
            · by_cases e : j = k
              · rw [e, t1]; exact e237'
              · rw [f237 _ (by omega), h1 j (by omega)]; exact congrArg nI (dg_add_mul (by omega)).symm
            · rw [f237 _ (by omega)]; exact h2 j (by omega) hj2
          first
          | exact ev (g * dg D k + c) (dg X k + 1000000000 - (g * dg D k + c) % 1000000000) rfl (by omega) (by omega) (by rw [e237, nI_i]; exact congrArg iI (by omega))
          | exact ev (0 + c) (dg X k + 1000000000 - (0 + c) % 1000000000) (by rw [hD0 hc143, Nat.mul_zero]) (by omega) (by omega) (by rw [e237, nI_i]; exact congrArg iI (by omega))
          | (exfalso; omega)
        · refine x_lload (q := 227) dX9_digit_225 rfl rfl ?_
          refine xn_ldc2 (q := 230) 1000000000 dX9_digit_227 rfl cwX9_100 ?_
          refine xi_ladd (q := 231) dX9_digit_230 rfl rfl (lN_i' _) ?_
          refine x_goto 236 dX9_digit_231 (by decide) ?_
          refine xi_l2i (q := 237) dX9_digit_236 rfl rfl (by omega) (by omega) ?_
          refine m_limb (q := 238) hM a dX9_digit_237 rfl (by omega) (by omega) (by omega) (fun M σ237 k237 e237 f237 g237 i237 hM => ?_)
          refine xn_iinc (q := 241) (ls' := [(0, _), (1, _), (2, _), (9, _), (13, _), (15, _), (16, _), (18, _)]) [1, 2, 3, 4, 5, 0, 6, 7] 1 dX9_digit_238 rfl rfl (by decide) (by decide) rfl ?_
          refine x_goto 134 dX9_digit_241 (by decide) ?_
          refine x_ls (ls' := [(0, _), (1, _), (2, _), (9, _), (13, _), (15, _)]) [0, 1, 2, 3, 4, 5] rfl ?_
          have ev : ∀ tk v, tk = g * dg D k + c → v + tk = dg X k + (tk / 1000000000 + 1) * 1000000000 → v < 1000000000 → σ237.2.1 14 (t0 + k) = nI v → xX G l YX9_digit d Q 134 [(0, .ref o), (1, .int (nI t0)), (2, .int (nI n)), (9, .long (lN g)), (13, .long (lN (tk / 1000000000 + 1))), (15, .int (nI (k + 1)))] [] M N S := by
            intro tk v htk hv hv9 e237'
            obtain ⟨t1, t2⟩ := dg_top hV hv9
            refine ih (k + 1) (by omega) _ (V + v * B9 ^ k) σ237 M t2 (kd_step hVe htk hv) (by omega) (hk.trans k237) (g237.trans hz) (i237.trans hs) (fun i hi => (f237 i (by omega)).trans (hw i hi)) (fun j hj => ?_) (fun j hj hj2 => ?_) hM
            · by_cases e : j = k
              · rw [e, t1]; exact e237'
              · rw [f237 _ (by omega), h1 j (by omega)]; exact congrArg nI (dg_add_mul (by omega)).symm
            · rw [f237 _ (by omega)]; exact h2 j (by omega) hj2
          first
          | exact ev (g * dg D k + c) (dg X k + 1000000000 - (g * dg D k + c) % 1000000000) rfl (by omega) (by omega) (by rw [e237, nI_i]; exact congrArg iI (by omega))
          | exact ev (0 + c) (dg X k + 1000000000 - (0 + c) % 1000000000) (by rw [hD0 hc143, Nat.mul_zero]) (by omega) (by omega) (by rw [e237, nI_i]; exact congrArg iI (by omega))
          | (exfalso; omega)
    · refine x_lload (q := 148) dX9_digit_146 rfl rfl ?_
      refine x_aload_n (q := 149) dX9_digit_148 rfl rfl ?_
      refine m_get (q := 152) hM 14 fwX9_41 (by decide) dX9_digit_149 rfl rfl ?_
      refine xn_sipush (q := 155) 6000 dX9_digit_152 rfl (by decide) ?_
      refine x_iload (q := 157) dX9_digit_155 rfl rfl ?_
      refine xn_iadd (q := 158) dX9_digit_157 rfl ?_
      refine m_iald (q := 159) hM (n := 6400) (by decide) dX9_digit_158 rfl (by omega) ?_
      rw [hlD' hc143]
      refine xn_i2l (q := 160) dX9_digit_159 rfl (by omega) ?_
      refine xn_lmul (q := 161) dX9_digit_160 rfl ?_
      refine x_goto 165 dX9_digit_161 (by decide) ?_
      refine x_lload (q := 167) dX9_digit_165 rfl rfl ?_
      refine xn_ladd (q := 168) dX9_digit_167 rfl ?_
      refine x_lstore (q := 170) (ls' := [(0, _), (1, _), (2, _), (9, _), (13, _), (15, _), (16, _)]) [1, 2, 3, 4, 5, 6, 0] dX9_digit_168 rfl (by decide) rfl ?_
      refine x_aload_n (q := 171) dX9_digit_170 rfl rfl ?_
      refine m_get (q := 174) hM 14 fwX9_41 (by decide) dX9_digit_171 rfl rfl ?_
      refine x_iload_n (q := 175) dX9_digit_174 rfl rfl ?_
      refine x_iload (q := 177) dX9_digit_175 rfl rfl ?_
      refine xn_iadd (q := 178) dX9_digit_177 rfl ?_
      refine m_iald (q := 179) hM (n := 6400) (by decide) dX9_digit_178 rfl (by omega) ?_
      rw [hlX']
      refine xn_i2l (q := 180) dX9_digit_179 rfl (by omega) ?_
      refine x_lload (q := 182) dX9_digit_180 rfl rfl ?_
      refine xn_ldc2 (q := 185) 1000000000 dX9_digit_182 rfl cwX9_100 ?_
      refine xn_lrem (q := 186) dX9_digit_185 rfl (by omega) (by omega) (by omega) ?_
      refine xi_lsub (q := 187) dX9_digit_186 rfl (lN_i' _) (lN_i' _) ?_
      refine x_lstore (q := 189) (ls' := [(0, _), (1, _), (2, _), (9, _), (13, _), (15, _), (16, _), (18, _)]) [1, 2, 3, 4, 5, 6, 7, 0] dX9_digit_187 rfl (by decide) rfl ?_
      refine x_lload (q := 191) dX9_digit_189 rfl rfl ?_
      refine xn_ldc2 (q := 194) 1000000000 dX9_digit_191 rfl cwX9_100 ?_
      refine xn_ldiv (q := 195) dX9_digit_194 rfl (by omega) (by omega) (by omega) ?_
      refine x_lload (q := 197) dX9_digit_195 rfl rfl ?_
      refine xn_lconst (q := 198) 0 dX9_digit_197 rfl (by decide) ?_
      refine xi_lcmp_ge (q1 := 199) (q := 202) 206 dX9_digit_198 rfl dX9_digit_199 (by decide) rfl rfl (lN_i' _) (by omega) (by omega) (by omega) (by omega) (fun hc198 => ?_) (fun hc198 => ?_)
      · refine xn_lconst (q := 207) 0 dX9_digit_206 rfl (by decide) ?_
        refine xn_ladd (q := 208) dX9_digit_207 rfl ?_
        refine x_lstore (q := 210) (ls' := [(0, _), (1, _), (2, _), (9, _), (13, _), (15, _), (16, _), (18, _)]) [1, 2, 3, 4, 0, 5, 6, 7] dX9_digit_208 rfl (by decide) rfl ?_
        refine x_aload_n (q := 211) dX9_digit_210 rfl rfl ?_
        refine m_get (q := 214) hM 14 fwX9_41 (by decide) dX9_digit_211 rfl rfl ?_
        refine x_iload_n (q := 215) dX9_digit_214 rfl rfl ?_
        refine x_iload (q := 217) dX9_digit_215 rfl rfl ?_
        refine xn_iadd (q := 218) dX9_digit_217 rfl ?_
        refine x_lload (q := 220) dX9_digit_218 rfl rfl ?_
        refine xn_lconst (q := 221) 0 dX9_digit_220 rfl (by decide) ?_
        refine xi_lcmp_ge (q1 := 222) (q := 225) 234 dX9_digit_221 rfl dX9_digit_222 (by decide) rfl rfl (lN_i' _) (by omega) (by omega) (by omega) (by omega) (fun hc221 => ?_) (fun hc221 => ?_)
        · refine x_lload (q := 236) dX9_digit_234 rfl rfl ?_
          refine xi_l2i (q := 237) dX9_digit_236 rfl rfl (by omega) (by omega) ?_
          refine m_limb (q := 238) hM a dX9_digit_237 rfl (by omega) (by omega) (by omega) (fun M σ237 k237 e237 f237 g237 i237 hM => ?_)
          refine xn_iinc (q := 241) (ls' := [(0, _), (1, _), (2, _), (9, _), (13, _), (15, _), (16, _), (18, _)]) [1, 2, 3, 4, 5, 0, 6, 7] 1 dX9_digit_238 rfl rfl (by decide) (by decide) rfl ?_
          refine x_goto 134 dX9_digit_241 (by decide) ?_
          refine x_ls (ls' := [(0, _), (1, _), (2, _), (9, _), (13, _), (15, _)]) [0, 1, 2, 3, 4, 5] rfl ?_
          have ev : ∀ tk v, tk = g * dg D k + c → v + tk = dg X k + (tk / 1000000000 + 0) * 1000000000 → v < 1000000000 → σ237.2.1 14 (t0 + k) = nI v → xX G l YX9_digit d Q 134 [(0, .ref o), (1, .int (nI t0)), (2, .int (nI n)), (9, .long (lN g)), (13, .long (lN (tk / 1000000000 + 0))), (15, .int (nI (k + 1)))] [] M N S := by
            intro tk v htk hv hv9 e237'
            obtain ⟨t1, t2⟩ := dg_top hV hv9
            refine ih (k + 1) (by omega) _ (V + v * B9 ^ k) σ237 M t2 (kd_step hVe htk hv) (by omega) (hk.trans k237) (g237.trans hz) (i237.trans hs) (fun i hi => (f237 i (by omega)).trans (hw i hi)) (fun j hj => ?_) (fun j hj hj2 => ?_) hM
            · by_cases e : j = k
              · rw [e, t1]; exact e237'
              · rw [f237 _ (by omega), h1 j (by omega)]; exact congrArg nI (dg_add_mul (by omega)).symm
            · rw [f237 _ (by omega)]; exact h2 j (by omega) hj2
          first
          | exact ev (g * dg D k + c) (dg X k - (g * dg D k + c) % 1000000000) rfl (by omega) (by omega) (by rw [e237, nI_i]; exact congrArg iI (by omega))
          | exact ev (0 + c) (dg X k - (0 + c) % 1000000000) (by rw [hD0 hc143, Nat.mul_zero]) (by omega) (by omega) (by rw [e237, nI_i]; exact congrArg iI (by omega))
          | (exfalso; omega)
        · refine x_lload (q := 227) dX9_digit_225 rfl rfl ?_
          refine xn_ldc2 (q := 230) 1000000000 dX9_digit_227 rfl cwX9_100 ?_
          refine xi_ladd (q := 231) dX9_digit_230 rfl rfl (lN_i' _) ?_
          refine x_goto 236 dX9_digit_231 (by decide) ?_
          refine xi_l2i (q := 237) dX9_digit_236 rfl rfl (by omega) (by omega) ?_
          refine m_limb (q := 238) hM a dX9_digit_237 rfl (by omega) (by omega) (by omega) (fun M σ237 k237 e237 f237 g237 i237 hM => ?_)
          refine xn_iinc (q := 241) (ls' := [(0, _), (1, _), (2, _), (9, _), (13, _), (15, _), (16, _), (18, _)]) [1, 2, 3, 4, 5, 0, 6, 7] 1 dX9_digit_238 rfl rfl (by decide) (by decide) rfl ?_
          refine x_goto 134 dX9_digit_241 (by decide) ?_
          refine x_ls (ls' := [(0, _), (1, _), (2, _), (9, _), (13, _), (15, _)]) [0, 1, 2, 3, 4, 5] rfl ?_
          have ev : ∀ tk v, tk = g * dg D k + c → v + tk = dg X k + (tk / 1000000000 + 0) * 1000000000 → v < 1000000000 → σ237.2.1 14 (t0 + k) = nI v → xX G l YX9_digit d Q 134 [(0, .ref o), (1, .int (nI t0)), (2, .int (nI n)), (9, .long (lN g)), (13, .long (lN (tk / 1000000000 + 0))), (15, .int (nI (k + 1)))] [] M N S := by
            intro tk v htk hv hv9 e237'
            obtain ⟨t1, t2⟩ := dg_top hV hv9
            refine ih (k + 1) (by omega) _ (V + v * B9 ^ k) σ237 M t2 (kd_step hVe htk hv) (by omega) (hk.trans k237) (g237.trans hz) (i237.trans hs) (fun i hi => (f237 i (by omega)).trans (hw i hi)) (fun j hj => ?_) (fun j hj hj2 => ?_) hM
            · by_cases e : j = k
              · rw [e, t1]; exact e237'
              · rw [f237 _ (by omega), h1 j (by omega)]; exact congrArg nI (dg_add_mul (by omega)).symm
            · rw [f237 _ (by omega)]; exact h2 j (by omega) hj2
          first
          | exact ev (g * dg D k + c) (dg X k - (g * dg D k + c) % 1000000000) rfl (by omega) (by omega) (by rw [e237, nI_i]; exact congrArg iI (by omega))
          | exact ev (0 + c) (dg X k - (0 + c) % 1000000000) (by rw [hD0 hc143, Nat.mul_zero]) (by omega) (by omega) (by rw [e237, nI_i]; exact congrArg iI (by omega))
          | (exfalso; omega)
      · refine xn_lconst (q := 203) 1 dX9_digit_202 rfl (by decide) ?_
        refine x_goto 207 dX9_digit_203 (by decide) ?_
        refine xn_ladd (q := 208) dX9_digit_207 rfl ?_
        refine x_lstore (q := 210) (ls' := [(0, _), (1, _), (2, _), (9, _), (13, _), (15, _), (16, _), (18, _)]) [1, 2, 3, 4, 0, 5, 6, 7] dX9_digit_208 rfl (by decide) rfl ?_
        refine x_aload_n (q := 211) dX9_digit_210 rfl rfl ?_
        refine m_get (q := 214) hM 14 fwX9_41 (by decide) dX9_digit_211 rfl rfl ?_
        refine x_iload_n (q := 215) dX9_digit_214 rfl rfl ?_
        refine x_iload (q := 217) dX9_digit_215 rfl rfl ?_
        refine xn_iadd (q := 218) dX9_digit_217 rfl ?_
        refine x_lload (q := 220) dX9_digit_218 rfl rfl ?_
        refine xn_lconst (q := 221) 0 dX9_digit_220 rfl (by decide) ?_
        refine xi_lcmp_ge (q1 := 222) (q := 225) 234 dX9_digit_221 rfl dX9_digit_222 (by decide) rfl rfl (lN_i' _) (by omega) (by omega) (by omega) (by omega) (fun hc221 => ?_) (fun hc221 => ?_)
        · refine x_lload (q := 236) dX9_digit_234 rfl rfl ?_
          refine xi_l2i (q := 237) dX9_digit_236 rfl rfl (by omega) (by omega) ?_
          refine m_limb (q := 238) hM a dX9_digit_237 rfl (by omega) (by omega) (by omega) (fun M σ237 k237 e237 f237 g237 i237 hM => ?_)
          refine xn_iinc (q := 241) (ls' := [(0, _), (1, _), (2, _), (9, _), (13, _), (15, _), (16, _), (18, _)]) [1, 2, 3, 4, 5, 0, 6, 7] 1 dX9_digit_238 rfl rfl (by decide) (by decide) rfl ?_
          refine x_goto 134 dX9_digit_241 (by decide) ?_
          refine x_ls (ls' := [(0, _), (1, _), (2, _), (9, _), (13, _), (15, _)]) [0, 1, 2, 3, 4, 5] rfl ?_
          have ev : ∀ tk v, tk = g * dg D k + c → v + tk = dg X k + (tk / 1000000000 + 1) * 1000000000 → v < 1000000000 → σ237.2.1 14 (t0 + k) = nI v → xX G l YX9_digit d Q 134 [(0, .ref o), (1, .int (nI t0)), (2, .int (nI n)), (9, .long (lN g)), (13, .long (lN (tk / 1000000000 + 1))), (15, .int (nI (k + 1)))] [] M N S := by
            intro tk v htk hv hv9 e237'
            obtain ⟨t1, t2⟩ := dg_top hV hv9
            refine ih (k + 1) (by omega) _ (V + v * B9 ^ k) σ237 M t2 (kd_step hVe htk hv) (by omega) (hk.trans k237) (g237.trans hz) (i237.trans hs) (fun i hi => (f237 i (by omega)).trans (hw i hi)) (fun j hj => ?_) (fun j hj hj2 => ?_) hM
            · by_cases e : j = k
              · rw [e, t1]; exact e237'
              · rw [f237 _ (by omega), h1 j (by omega)]; exact congrArg nI (dg_add_mul (by omega)).symm
            · rw [f237 _ (by omega)]; exact h2 j (by omega) hj2
          first
          | exact ev (g * dg D k + c) (dg X k + 1000000000 - (g * dg D k + c) % 1000000000) rfl (by omega) (by omega) (by rw [e237, nI_i]; exact congrArg iI (by omega))
          | exact ev (0 + c) (dg X k + 1000000000 - (0 + c) % 1000000000) (by rw [hD0 hc143, Nat.mul_zero]) (by omega) (by omega) (by rw [e237, nI_i]; exact congrArg iI (by omega))
          | (exfalso; omega)
        · refine x_lload (q := 227) dX9_digit_225 rfl rfl ?_
          refine xn_ldc2 (q := 230) 1000000000 dX9_digit_227 rfl cwX9_100 ?_
          refine xi_ladd (q := 231) dX9_digit_230 rfl rfl (lN_i' _) ?_
          refine x_goto 236 dX9_digit_231 (by decide) ?_
          refine xi_l2i (q := 237) dX9_digit_236 rfl rfl (by omega) (by omega) ?_
          refine m_limb (q := 238) hM a dX9_digit_237 rfl (by omega) (by omega) (by omega) (fun M σ237 k237 e237 f237 g237 i237 hM => ?_)
          refine xn_iinc (q := 241) (ls' := [(0, _), (1, _), (2, _), (9, _), (13, _), (15, _), (16, _), (18, _)]) [1, 2, 3, 4, 5, 0, 6, 7] 1 dX9_digit_238 rfl rfl (by decide) (by decide) rfl ?_
          refine x_goto 134 dX9_digit_241 (by decide) ?_
          refine x_ls (ls' := [(0, _), (1, _), (2, _), (9, _), (13, _), (15, _)]) [0, 1, 2, 3, 4, 5] rfl ?_
          have ev : ∀ tk v, tk = g * dg D k + c → v + tk = dg X k + (tk / 1000000000 + 1) * 1000000000 → v < 1000000000 → σ237.2.1 14 (t0 + k) = nI v → xX G l YX9_digit d Q 134 [(0, .ref o), (1, .int (nI t0)), (2, .int (nI n)), (9, .long (lN g)), (13, .long (lN (tk / 1000000000 + 1))), (15, .int (nI (k + 1)))] [] M N S := by
            intro tk v htk hv hv9 e237'
            obtain ⟨t1, t2⟩ := dg_top hV hv9
            refine ih (k + 1) (by omega) _ (V + v * B9 ^ k) σ237 M t2 (kd_step hVe htk hv) (by omega) (hk.trans k237) (g237.trans hz) (i237.trans hs) (fun i hi => (f237 i (by omega)).trans (hw i hi)) (fun j hj => ?_) (fun j hj hj2 => ?_) hM
            · by_cases e : j = k
              · rw [e, t1]; exact e237'
              · rw [f237 _ (by omega), h1 j (by omega)]; exact congrArg nI (dg_add_mul (by omega)).symm
            · rw [f237 _ (by omega)]; exact h2 j (by omega) hj2
          first
          | exact ev (g * dg D k + c) (dg X k + 1000000000 - (g * dg D k + c) % 1000000000) rfl (by omega) (by omega) (by rw [e237, nI_i]; exact congrArg iI (by omega))
          | exact ev (0 + c) (dg X k + 1000000000 - (0 + c) % 1000000000) (by rw [hD0 hc143, Nat.mul_zero]) (by omega) (by omega) (by rw [e237, nI_i]; exact congrArg iI (by omega))
          | (exfalso; omega)
set_option maxRecDepth 100000 in
set_option maxHeartbeats 4000000 in
theorem c_dig_3 (G : xG) (l : Launch) (o : Nat) (as : Nat → Nat) (M0 : xM) (N S : Nat) (d : Nat) (a t0 n g X D : Nat) (ha : a < 16) (ha15 : a ≠ 15) (ht0 : 400 * a ≤ t0) (ht1 : t0 + n < 400 * a + 400) (hg : g < 1000000000) (hDn : D < B9 ^ n) (σ : mS) (hlD : ∀ k, k < n → σ.2.1 14 (6000 + k) = nI (dg D k)) (V : Nat) (Q : xPost)
    (hx : ∀ c σ' M, keep a σ σ' → σ'.2.1 15 = σ.2.1 15 → σ'.2.1 16 = σ.2.1 16 → (∀ i, (i < t0 ∨ t0 + n < i) → σ'.2.1 14 i = σ.2.1 14 i) → (∀ j, j < n + 1 → σ'.2.1 14 (t0 + j) = nI (dg (V + D) j)) → mAt o as σ' M0 M → xX G l YX9_digit d Q 339 [(0, .ref o), (1, .int (nI t0)), (2, .int (nI n)), (9, .long (lN g)), (15, .int (nI c)), (16, .int (nI (n + 1)))] [] M N S) :
    ∀ (u k : Nat), k + u = n + 1 → ∀ σ' M, keep a σ σ' → σ'.2.1 15 = σ.2.1 15 → σ'.2.1 16 = σ.2.1 16 → (∀ i, (i < t0 ∨ t0 + n < i) → σ'.2.1 14 i = σ.2.1 14 i) → (∀ j, j < k → σ'.2.1 14 (t0 + j) = nI (dg (V + D) j)) → (∀ j, k ≤ j → j ≤ n → σ'.2.1 14 (t0 + j) = nI (dg V j)) → mAt o as σ' M0 M → xX G l YX9_digit d Q 260 [(0, .ref o), (1, .int (nI t0)), (2, .int (nI n)), (9, .long (lN g)), (15, .int (nI (cy V D k))), (16, .int (nI k))] [] M N S := by
  intro u
  induction u with
  | zero =>
    intro k hk0 σ' M hk hz hs hw h1 h2 hM
    obtain rfl : k = n + 1 := by omega
    refine x_iload (q := 262) dX9_digit_260 rfl rfl ?_
    refine x_iload_n (q := 263) dX9_digit_262 rfl rfl ?_
    refine xn_icmp_gt (q := 266) 339 dX9_digit_263 (by decide) rfl (by omega) (by omega) (fun hc263 => ?_) (fun hc263 => absurd hc263 (by omega))
    exact hx _ σ' M hk hz hs hw h1 hM
  | succ u ih =>
    intro k hk0 σ' M hk hz hs hw h1 h2 hM
    have dd : dg D k < 1000000000 := dg_lt D k
    have dx : dg V k < 1000000000 := dg_lt V k
    have hcl := cy_le V D k
    have hlV' : σ'.2.1 14 (t0 + k) = nI (dg V k) := h2 k (Nat.le_refl _) (by omega)
    have hlD' : k < n → σ'.2.1 14 (6000 + k) = nI (dg D k) := fun h => (hw _ (by omega)).trans (hlD k h)
    have hD0 : n ≤ k → dg D k = 0 := fun h => dg_hi (Nat.lt_of_lt_of_le hDn (B9_mono h))
    refine x_iload (q := 262) dX9_digit_260 rfl rfl ?_
    refine x_iload_n (q := 263) dX9_digit_262 rfl rfl ?_
    refine xn_icmp_gt (q := 266) 339 dX9_digit_263 (by decide) rfl (by omega) (by omega) (fun hc263 => absurd hc263 (by omega)) (fun hc263 => ?_)
    refine x_aload_n (q := 267) dX9_digit_266 rfl rfl ?_
    refine m_get (q := 270) hM 14 fwX9_41 (by decide) dX9_digit_267 rfl rfl ?_
    refine x_iload_n (q := 271) dX9_digit_270 rfl rfl ?_
    refine x_iload (q := 273) dX9_digit_271 rfl rfl ?_
    refine xn_iadd (q := 274) dX9_digit_273 rfl ?_
    refine m_iald (q := 275) hM (n := 6400) (by decide) dX9_digit_274 rfl (by omega) ?_
    rw [hlV']
    refine x_iload (q := 277) dX9_digit_275 rfl rfl ?_
    refine xn_iadd (q := 278) dX9_digit_277 rfl ?_
    refine x_iload (q := 280) dX9_digit_278 rfl rfl ?_
    refine x_iload_n (q := 281) dX9_digit_280 rfl rfl ?_
    refine xn_icmp_ge (q := 284) 298 dX9_digit_281 (by decide) rfl (by omega) (by omega) (fun hc281 => ?_) (fun hc281 => ?_)
    · refine xn_iconst (q := 299) 0 dX9_digit_298 rfl (by decide) ?_
      refine xn_iadd (q := 300) dX9_digit_299 rfl ?_
      refine x_istore (q := 302) (ls' := [(0, _), (1, _), (2, _), (9, _), (15, _), (16, _), (17, _)]) [1, 2, 3, 4, 5, 6, 0] dX9_digit_300 rfl (by decide) rfl ?_
      refine x_iload (q := 304) dX9_digit_302 rfl rfl ?_
      refine xn_ldc (q := 306) 1000000000 dX9_digit_304 rfl cwX9_102 ?_
      refine xn_icmp_lt (q := 309) 313 dX9_digit_306 (by decide) rfl (by omega) (by omega) (fun hc306 => ?_) (fun hc306 => ?_)
      · refine xn_iconst (q := 314) 0 dX9_digit_313 rfl (by decide) ?_
        refine x_istore (q := 316) (ls' := [(0, _), (1, _), (2, _), (9, _), (15, _), (16, _), (17, _)]) [1, 2, 3, 4, 0, 5, 6] dX9_digit_314 rfl (by decide) rfl ?_
        refine x_aload_n (q := 317) dX9_digit_316 rfl rfl ?_
        refine m_get (q := 320) hM 14 fwX9_41 (by decide) dX9_digit_317 rfl rfl ?_
        refine x_iload_n (q := 321) dX9_digit_320 rfl rfl ?_
        refine x_iload (q := 323) dX9_digit_321 rfl rfl ?_
        refine xn_iadd (q := 324) dX9_digit_323 rfl ?_
        refine x_iload (q := 326) dX9_digit_324 rfl rfl ?_
        refine x_iload (q := 328) dX9_digit_326 rfl rfl ?_
        refine xn_ldc (q := 330) 1000000000 dX9_digit_328 rfl cwX9_102 ?_
        refine xn_imul (q := 331) dX9_digit_330 rfl ?_
        refine x_topi (y := nI 0) rfl ?_
        refine xn_isub (q := 332) dX9_digit_331 rfl (by omega) ?_
        refine m_limb (q := 333) hM a dX9_digit_332 rfl (by omega) (by omega) (by omega) (fun M σ332 k332 e332 f332 g332 i332 hM => ?_)
        refine xn_iinc (q := 336) (ls' := [(0, _), (1, _), (2, _), (9, _), (15, _), (16, _), (17, _)]) [1, 2, 3, 4, 5, 0, 6] 1 dX9_digit_333 rfl rfl (by decide) (by decide) rfl ?_
        refine x_goto 260 dX9_digit_336 (by decide) ?_
        refine x_ls (ls' := [(0, _), (1, _), (2, _), (9, _), (15, _), (16, _)]) [0, 1, 2, 3, 4, 5] rfl ?_
        have hD1 := hD0
        obtain ⟨hs1, hs2⟩ := cy_step V D k
        have hs1 : dg (V + D) k = (cy V D k + dg V k + dg D k) % 1000000000 := hs1
        have hs2 : cy V D (k + 1) = (cy V D k + dg V k + dg D k) / 1000000000 := hs2
        have hcc : cy V D (k + 1) = 0 := by omega
        have h5 := ih (k + 1) (by omega) σ332 M (hk.trans k332) (g332.trans hz) (i332.trans hs) (fun i hi => (f332 i (by omega)).trans (hw i hi)) (fun j hj => ?_) (fun j hj hj2 => ?_) hM
        · rw [hcc] at h5; exact h5
        · by_cases e : j = k
          · rw [e, e332]; exact congrArg nI (by omega)
          · rw [f332 _ (by omega)]; exact h1 j (by omega)
        · rw [f332 _ (by omega)]; exact h2 j (by omega) hj2
      · refine xn_iconst (q := 310) 1 dX9_digit_309 rfl (by decide) ?_
        refine x_goto 314 dX9_digit_310 (by decide) ?_
        refine x_istore (q := 316) (ls' := [(0, _), (1, _), (2, _), (9, _), (15, _), (16, _), (17, _)]) [1, 2, 3, 4, 0, 5, 6] dX9_digit_314 rfl (by decide) rfl ?_
        refine x_aload_n (q := 317) dX9_digit_316 rfl rfl ?_
        refine m_get (q := 320) hM 14 fwX9_41 (by decide) dX9_digit_317 rfl rfl ?_
        refine x_iload_n (q := 321) dX9_digit_320 rfl rfl ?_
        refine x_iload (q := 323) dX9_digit_321 rfl rfl ?_
        refine xn_iadd (q := 324) dX9_digit_323 rfl ?_
        refine x_iload (q := 326) dX9_digit_324 rfl rfl ?_
        refine x_iload (q := 328) dX9_digit_326 rfl rfl ?_
        refine xn_ldc (q := 330) 1000000000 dX9_digit_328 rfl cwX9_102 ?_
        refine xn_imul (q := 331) dX9_digit_330 rfl ?_
        refine x_topi (y := nI 1000000000) rfl ?_
        refine xn_isub (q := 332) dX9_digit_331 rfl (by omega) ?_
        refine m_limb (q := 333) hM a dX9_digit_332 rfl (by omega) (by omega) (by omega) (fun M σ332 k332 e332 f332 g332 i332 hM => ?_)
        refine xn_iinc (q := 336) (ls' := [(0, _), (1, _), (2, _), (9, _), (15, _), (16, _), (17, _)]) [1, 2, 3, 4, 5, 0, 6] 1 dX9_digit_333 rfl rfl (by decide) (by decide) rfl ?_
        refine x_goto 260 dX9_digit_336 (by decide) ?_
        refine x_ls (ls' := [(0, _), (1, _), (2, _), (9, _), (15, _), (16, _)]) [0, 1, 2, 3, 4, 5] rfl ?_
        have hD1 := hD0
        obtain ⟨hs1, hs2⟩ := cy_step V D k
        have hs1 : dg (V + D) k = (cy V D k + dg V k + dg D k) % 1000000000 := hs1
        have hs2 : cy V D (k + 1) = (cy V D k + dg V k + dg D k) / 1000000000 := hs2
        have hcc : cy V D (k + 1) = 1 := by omega
        have h5 := ih (k + 1) (by omega) σ332 M (hk.trans k332) (g332.trans hz) (i332.trans hs) (fun i hi => (f332 i (by omega)).trans (hw i hi)) (fun j hj => ?_) (fun j hj hj2 => ?_) hM
        · rw [hcc] at h5; exact h5
        · by_cases e : j = k
          · rw [e, e332]; exact congrArg nI (by omega)
          · rw [f332 _ (by omega)]; exact h1 j (by omega)
        · rw [f332 _ (by omega)]; exact h2 j (by omega) hj2
    · refine x_aload_n (q := 285) dX9_digit_284 rfl rfl ?_
      refine m_get (q := 288) hM 14 fwX9_41 (by decide) dX9_digit_285 rfl rfl ?_
      refine xn_sipush (q := 291) 6000 dX9_digit_288 rfl (by decide) ?_
      refine x_iload (q := 293) dX9_digit_291 rfl rfl ?_
      refine xn_iadd (q := 294) dX9_digit_293 rfl ?_
      refine m_iald (q := 295) hM (n := 6400) (by decide) dX9_digit_294 rfl (by omega) ?_
      rw [hlD' hc281]
      refine x_goto 299 dX9_digit_295 (by decide) ?_
      refine xn_iadd (q := 300) dX9_digit_299 rfl ?_
      refine x_istore (q := 302) (ls' := [(0, _), (1, _), (2, _), (9, _), (15, _), (16, _), (17, _)]) [1, 2, 3, 4, 5, 6, 0] dX9_digit_300 rfl (by decide) rfl ?_
      refine x_iload (q := 304) dX9_digit_302 rfl rfl ?_
      refine xn_ldc (q := 306) 1000000000 dX9_digit_304 rfl cwX9_102 ?_
      refine xn_icmp_lt (q := 309) 313 dX9_digit_306 (by decide) rfl (by omega) (by omega) (fun hc306 => ?_) (fun hc306 => ?_)
      · refine xn_iconst (q := 314) 0 dX9_digit_313 rfl (by decide) ?_
        refine x_istore (q := 316) (ls' := [(0, _), (1, _), (2, _), (9, _), (15, _), (16, _), (17, _)]) [1, 2, 3, 4, 0, 5, 6] dX9_digit_314 rfl (by decide) rfl ?_
        refine x_aload_n (q := 317) dX9_digit_316 rfl rfl ?_
        refine m_get (q := 320) hM 14 fwX9_41 (by decide) dX9_digit_317 rfl rfl ?_
        refine x_iload_n (q := 321) dX9_digit_320 rfl rfl ?_
        refine x_iload (q := 323) dX9_digit_321 rfl rfl ?_
        refine xn_iadd (q := 324) dX9_digit_323 rfl ?_
        refine x_iload (q := 326) dX9_digit_324 rfl rfl ?_
        refine x_iload (q := 328) dX9_digit_326 rfl rfl ?_
        refine xn_ldc (q := 330) 1000000000 dX9_digit_328 rfl cwX9_102 ?_
        refine xn_imul (q := 331) dX9_digit_330 rfl ?_
        refine x_topi (y := nI 0) rfl ?_
        refine xn_isub (q := 332) dX9_digit_331 rfl (by omega) ?_
        refine m_limb (q := 333) hM a dX9_digit_332 rfl (by omega) (by omega) (by omega) (fun M σ332 k332 e332 f332 g332 i332 hM => ?_)
        refine xn_iinc (q := 336) (ls' := [(0, _), (1, _), (2, _), (9, _), (15, _), (16, _), (17, _)]) [1, 2, 3, 4, 5, 0, 6] 1 dX9_digit_333 rfl rfl (by decide) (by decide) rfl ?_
        refine x_goto 260 dX9_digit_336 (by decide) ?_
        refine x_ls (ls' := [(0, _), (1, _), (2, _), (9, _), (15, _), (16, _)]) [0, 1, 2, 3, 4, 5] rfl ?_
        have hD1 := hD0
        obtain ⟨hs1, hs2⟩ := cy_step V D k
        have hs1 : dg (V + D) k = (cy V D k + dg V k + dg D k) % 1000000000 := hs1
        have hs2 : cy V D (k + 1) = (cy V D k + dg V k + dg D k) / 1000000000 := hs2
        have hcc : cy V D (k + 1) = 0 := by omega
        have h5 := ih (k + 1) (by omega) σ332 M (hk.trans k332) (g332.trans hz) (i332.trans hs) (fun i hi => (f332 i (by omega)).trans (hw i hi)) (fun j hj => ?_) (fun j hj hj2 => ?_) hM
        · rw [hcc] at h5; exact h5
        · by_cases e : j = k
          · rw [e, e332]; exact congrArg nI (by omega)
          · rw [f332 _ (by omega)]; exact h1 j (by omega)
        · rw [f332 _ (by omega)]; exact h2 j (by omega) hj2
      · refine xn_iconst (q := 310) 1 dX9_digit_309 rfl (by decide) ?_
        refine x_goto 314 dX9_digit_310 (by decide) ?_
        refine x_istore (q := 316) (ls' := [(0, _), (1, _), (2, _), (9, _), (15, _), (16, _), (17, _)]) [1, 2, 3, 4, 0, 5, 6] dX9_digit_314 rfl (by decide) rfl ?_
        refine x_aload_n (q := 317) dX9_digit_316 rfl rfl ?_
        refine m_get (q := 320) hM 14 fwX9_41 (by decide) dX9_digit_317 rfl rfl ?_
        refine x_iload_n (q := 321) dX9_digit_320 rfl rfl ?_
        refine x_iload (q := 323) dX9_digit_321 rfl rfl ?_
        refine xn_iadd (q := 324) dX9_digit_323 rfl ?_
        refine x_iload (q := 326) dX9_digit_324 rfl rfl ?_
        refine x_iload (q := 328) dX9_digit_326 rfl rfl ?_
        refine xn_ldc (q := 330) 1000000000 dX9_digit_328 rfl cwX9_102 ?_
        refine xn_imul (q := 331) dX9_digit_330 rfl ?_
        refine x_topi (y := nI 1000000000) rfl ?_
        refine xn_isub (q := 332) dX9_digit_331 rfl (by omega) ?_
        refine m_limb (q := 333) hM a dX9_digit_332 rfl (by omega) (by omega) (by omega) (fun M σ332 k332 e332 f332 g332 i332 hM => ?_)
        refine xn_iinc (q := 336) (ls' := [(0, _), (1, _), (2, _), (9, _), (15, _), (16, _), (17, _)]) [1, 2, 3, 4, 5, 0, 6] 1 dX9_digit_333 rfl rfl (by decide) (by decide) rfl ?_
        refine x_goto 260 dX9_digit_336 (by decide) ?_
        refine x_ls (ls' := [(0, _), (1, _), (2, _), (9, _), (15, _), (16, _)]) [0, 1, 2, 3, 4, 5] rfl ?_
        have hD1 := hD0
        obtain ⟨hs1, hs2⟩ := cy_step V D k
        have hs1 : dg (V + D) k = (cy V D k + dg V k + dg D k) % 1000000000 := hs1
        have hs2 : cy V D (k + 1) = (cy V D k + dg V k + dg D k) / 1000000000 := hs2
        have hcc : cy V D (k + 1) = 1 := by omega
        have h5 := ih (k + 1) (by omega) σ332 M (hk.trans k332) (g332.trans hz) (i332.trans hs) (fun i hi => (f332 i (by omega)).trans (hw i hi)) (fun j hj => ?_) (fun j hj hj2 => ?_) hM
        · rw [hcc] at h5; exact h5
        · by_cases e : j = k
          · rw [e, e332]; exact congrArg nI (by omega)
          · rw [f332 _ (by omega)]; exact h1 j (by omega)
        · rw [f332 _ (by omega)]; exact h2 j (by omega) hj2
set_option maxRecDepth 100000 in
set_option maxHeartbeats 4000000 in
theorem c_digit (G : xG) (l : Launch) (o : Nat) (as : Nat → Nat) (M0 : xM) (N S : Nat) (d : Nat) (a t0 n : Nat) (ha : a < 16) (ha15 : a ≠ 15) (ht0 : 400 * a ≤ t0) (ht1 : t0 + n < 400 * a + 400) (hn : 2 ≤ n) (X D : Nat) (hDn : D < B9 ^ n) (hDt : dg D (n - 1) ≠ 0) (hXD : X < D * B9) (σ : mS) (hlD : ∀ k, k < n → σ.2.1 14 (6000 + k) = nI (dg D k)) (hlX : ∀ k, k ≤ n → σ.2.1 14 (t0 + k) = nI (dg X k)) : mC G l o as M0 N S YX9_digit d [.int (nI t0), .int (nI n)] σ (fun x σ' => x = some (.long (lN (X / D))) ∧ keep a σ σ' ∧ σ'.2.1 15 = σ.2.1 15 ∧ σ'.2.1 16 = σ.2.1 16 ∧ (∀ i, (i < t0 ∨ t0 + n < i) → σ'.2.1 14 i = σ.2.1 14 i) ∧ ∀ j, j < n + 1 → σ'.2.1 14 (t0 + j) = nI (dg (X % D) j)) := by
  have hq : X / D < 1000000000 := Nat.div_lt_of_lt_mul hXD
  have hD : 0 < D := by
    rcases Nat.eq_zero_or_pos D with e | e
    · rw [e, Nat.zero_mul] at hXD; omega
    · exact e
  have hX1 : X < B9 ^ (n + 1) := by
    rw [B9_succ]; exact Nat.lt_of_lt_of_le hXD (Nat.mul_le_mul_right _ (Nat.le_of_lt hDn))
  have d1 : dg D (n - 1) < 1000000000 := dg_lt D (n - 1)
  have d2 : dg D (n - 2) < 1000000000 := dg_lt D (n - 2)
  have x1 : dg X n < 1000000000 := dg_lt X n
  have x2 : dg X (n - 1) < 1000000000 := dg_lt X (n - 1)
  have x3 : dg X (n - 2) < 1000000000 := dg_lt X (n - 2)
  have eX : X / B9 ^ (n - 2) = (dg X n * 1000000000 + dg X (n - 1)) * 1000000000 + dg X (n - 2) := by
    obtain ⟨m, rfl⟩ : ∃ m, n = m + 2 := ⟨n - 2, by omega⟩
    have h1 : X / B9 ^ m = X / B9 ^ (m + 1) * 1000000000 + dg X m := div_dg X m
    have h2 : X / B9 ^ (m + 1) = X / B9 ^ (m + 1 + 1) * 1000000000 + dg X (m + 1) := div_dg X (m + 1)
    have h3 : X / B9 ^ (m + 1 + 1) = X / B9 ^ (m + 1 + 1 + 1) * 1000000000 + dg X (m + 1 + 1) := div_dg X (m + 1 + 1)
    rw [show X / B9 ^ (m + 1 + 1 + 1) = 0 from Nat.div_eq_of_lt hX1, Nat.zero_mul, Nat.zero_add] at h3
    show X / B9 ^ m = (dg X (m + 1 + 1) * 1000000000 + dg X (m + 1)) * 1000000000 + dg X m
    rw [h1, h2, h3]
  have eD : D / B9 ^ (n - 2) = dg D (n - 1) * 1000000000 + dg D (n - 2) := by
    obtain ⟨m, rfl⟩ : ∃ m, n = m + 2 := ⟨n - 2, by omega⟩
    have h1 : D / B9 ^ m = D / B9 ^ (m + 1) * 1000000000 + dg D m := div_dg D m
    have h2 : D / B9 ^ (m + 1) = D / B9 ^ (m + 1 + 1) * 1000000000 + dg D (m + 1) := div_dg D (m + 1)
    rw [show D / B9 ^ (m + 1 + 1) = 0 from Nat.div_eq_of_lt hDn, Nat.zero_mul, Nat.zero_add] at h2
    show D / B9 ^ m = dg D (m + 1) * 1000000000 + dg D m
    rw [h1, h2]
  have eX1 : X / B9 ^ (n - 1) = dg X n * 1000000000 + dg X (n - 1) := by
    obtain ⟨m, rfl⟩ : ∃ m, n = m + 1 := ⟨n - 1, by omega⟩
    have h2 : X / B9 ^ m = X / B9 ^ (m + 1) * 1000000000 + dg X m := div_dg X m
    have h3 : X / B9 ^ (m + 1) = X / B9 ^ (m + 1 + 1) * 1000000000 + dg X (m + 1) := div_dg X (m + 1)
    rw [show X / B9 ^ (m + 1 + 1) = 0 from Nat.div_eq_of_lt hX1, Nat.zero_mul, Nat.zero_add] at h3
    show X / B9 ^ m = dg X (m + 1) * 1000000000 + dg X m
    rw [h2, h3]
  have eD1 : D / B9 ^ (n - 1) = dg D (n - 1) := by
    obtain ⟨m, rfl⟩ : ∃ m, n = m + 1 := ⟨n - 1, by omega⟩
    have h2 : D / B9 ^ m = D / B9 ^ (m + 1) * 1000000000 + dg D m := div_dg D m
    rw [show D / B9 ^ (m + 1) = 0 from Nat.div_eq_of_lt hDn, Nat.zero_mul, Nat.zero_add] at h2
    exact h2
  have up : ∀ g, g < 1000000000 → g * (dg D (n - 1) * 1000000000 + dg D (n - 2)) ≤ (dg X n * 1000000000 + dg X (n - 1)) * 1000000000 + dg X (n - 2) → g ≤ X / D + 1 := fun g h1 h2 => kd_up (P := B9 ^ (n - 2)) (B := 1000000000) (B9_pos (n - 2)) h1 (by rw [eD]; omega) (by rw [eD, eX]; exact h2)
  have hqD : X / D * D ≤ X := Nat.div_mul_le_self X D
  have dn : ∀ g, (dg X n * 1000000000 + dg X (n - 1)) * 1000000000 + dg X (n - 2) < g * (dg D (n - 1) * 1000000000 + dg D (n - 2)) → X / D < g := fun g h => by
    rcases Nat.lt_or_ge (X / D) g with q | q
    · exact q
    · have := kd_le (B9_pos (n - 2)) (Nat.le_trans (Nat.mul_le_mul_right D q) hqD)
      rw [eD, eX] at this
      exact absurd this (Nat.not_le.mpr h)
  have hq1 : X / D * dg D (n - 1) ≤ dg X n * 1000000000 + dg X (n - 1) := by
    have := kd_le (B9_pos (n - 1)) hqD
    rw [eD1, eX1] at this
    exact this
  have hl3 : σ.2.1 14 (t0 + n - 2) = nI (dg X (n - 2)) := by
    have := hlX (n - 2) (by omega)
    rw [← Nat.add_sub_assoc hn] at this; exact this
  have hl2 : σ.2.1 14 (t0 + n - 1) = nI (dg X (n - 1)) := by
    have := hlX (n - 1) (by omega)
    rw [← Nat.add_sub_assoc (by omega : 1 ≤ n)] at this; exact this
  have hl1 : σ.2.1 14 (t0 + n) = nI (dg X n) := hlX n (Nat.le_refl _)
  have hm1 : σ.2.1 14 (6000 + n - 1) = nI (dg D (n - 1)) := by
    have := hlD (n - 1) (by omega)
    rw [← Nat.add_sub_assoc (by omega : 1 ≤ n)] at this; exact this
  have hm2 : σ.2.1 14 (6000 + n - 2) = nI (dg D (n - 2)) := by
    have := hlD (n - 2) (by omega)
    rw [← Nat.add_sub_assoc hn] at this; exact this
  have hT : 0 < dg D (n - 1) := Nat.pos_of_ne_zero hDt
  clear eX eD eX1 eD1
  refine mC.of (ls := [(0, .ref o), (1, .int (nI t0)), (2, .int (nI n))]) (by decide) (Nat.le_of_ble_eq_true rfl) rfl fun M hM => ?_
  refine x_aload_n (q := 1) dX9_digit_0 rfl rfl ?_
  refine m_get (q := 4) hM 14 fwX9_41 (by decide) dX9_digit_1 rfl rfl ?_
  refine xn_sipush (q := 7) 6000 dX9_digit_4 rfl (by decide) ?_
  refine x_iload_n (q := 8) dX9_digit_7 rfl rfl ?_
  refine xn_iadd (q := 9) dX9_digit_8 rfl ?_
  refine xn_iconst (q := 10) 1 dX9_digit_9 rfl (by decide) ?_
  refine xn_isub (q := 11) dX9_digit_10 rfl (by omega) ?_
  refine m_iald (q := 12) hM (n := 6400) (by decide) dX9_digit_11 rfl (by omega) ?_
  rw [hm1]
  refine xn_i2l (q := 13) dX9_digit_12 rfl (by omega) ?_
  refine x_lstore_n (q := 14) (ls' := [(0, _), (1, _), (2, _), (3, _)]) [1, 2, 3, 0] dX9_digit_13 rfl (by decide) rfl ?_
  refine x_aload_n (q := 15) dX9_digit_14 rfl rfl ?_
  refine m_get (q := 18) hM 14 fwX9_41 (by decide) dX9_digit_15 rfl rfl ?_
  refine xn_sipush (q := 21) 6000 dX9_digit_18 rfl (by decide) ?_
  refine x_iload_n (q := 22) dX9_digit_21 rfl rfl ?_
  refine xn_iadd (q := 23) dX9_digit_22 rfl ?_
  refine xn_iconst (q := 24) 2 dX9_digit_23 rfl (by decide) ?_
  refine xn_isub (q := 25) dX9_digit_24 rfl (by omega) ?_
  refine m_iald (q := 26) hM (n := 6400) (by decide) dX9_digit_25 rfl (by omega) ?_
  rw [hm2]
  refine xn_i2l (q := 27) dX9_digit_26 rfl (by omega) ?_
  refine x_lstore (q := 29) (ls' := [(0, _), (1, _), (2, _), (3, _), (5, _)]) [1, 2, 3, 4, 0] dX9_digit_27 rfl (by decide) rfl ?_
  refine x_aload_n (q := 30) dX9_digit_29 rfl rfl ?_
  refine m_get (q := 33) hM 14 fwX9_41 (by decide) dX9_digit_30 rfl rfl ?_
  refine x_iload_n (q := 34) dX9_digit_33 rfl rfl ?_
  refine x_iload_n (q := 35) dX9_digit_34 rfl rfl ?_
  refine xn_iadd (q := 36) dX9_digit_35 rfl ?_
  refine m_iald (q := 37) hM (n := 6400) (by decide) dX9_digit_36 rfl (by omega) ?_
  rw [hl1]
  refine xn_i2l (q := 38) dX9_digit_37 rfl (by omega) ?_
  refine xn_ldc2 (q := 41) 1000000000 dX9_digit_38 rfl cwX9_100 ?_
  refine xn_lmul (q := 42) dX9_digit_41 rfl ?_
  refine x_aload_n (q := 43) dX9_digit_42 rfl rfl ?_
  refine m_get (q := 46) hM 14 fwX9_41 (by decide) dX9_digit_43 rfl rfl ?_
  refine x_iload_n (q := 47) dX9_digit_46 rfl rfl ?_
  refine x_iload_n (q := 48) dX9_digit_47 rfl rfl ?_
  refine xn_iadd (q := 49) dX9_digit_48 rfl ?_
  refine xn_iconst (q := 50) 1 dX9_digit_49 rfl (by decide) ?_
  refine xn_isub (q := 51) dX9_digit_50 rfl (by omega) ?_
  refine m_iald (q := 52) hM (n := 6400) (by decide) dX9_digit_51 rfl (by omega) ?_
  rw [hl2]
  refine xn_i2l (q := 53) dX9_digit_52 rfl (by omega) ?_
  refine xn_ladd (q := 54) dX9_digit_53 rfl ?_
  refine x_lstore (q := 56) (ls' := [(0, _), (1, _), (2, _), (3, _), (5, _), (7, _)]) [1, 2, 3, 4, 5, 0] dX9_digit_54 rfl (by decide) rfl ?_
  refine x_lload (q := 58) dX9_digit_56 rfl rfl ?_
  refine x_lload_n (q := 59) dX9_digit_58 rfl rfl ?_
  refine xn_ldiv (q := 60) dX9_digit_59 rfl (by omega) hT (by omega) ?_
  refine x_lstore (q := 62) (ls' := [(0, _), (1, _), (2, _), (3, _), (5, _), (7, _), (9, _)]) [1, 2, 3, 4, 5, 6, 0] dX9_digit_60 rfl (by decide) rfl ?_
  refine x_lload (q := 64) dX9_digit_62 rfl rfl ?_
  refine x_lload_n (q := 65) dX9_digit_64 rfl rfl ?_
  refine xn_lrem (q := 66) dX9_digit_65 rfl (by omega) hT (by omega) ?_
  refine x_lstore (q := 68) (ls' := [(0, _), (1, _), (2, _), (3, _), (5, _), (7, _), (9, _), (11, _)]) [1, 2, 3, 4, 5, 6, 7, 0] dX9_digit_66 rfl (by decide) rfl ?_
  have hgg : ∀ two T, two - two / T * T = two % T := fun two T => by rw [Nat.mul_comm]; exact Nat.mod_eq_sub_mul_div.symm
  have h5 := c_dig_1 G l o as M0 N S d a t0 n (dg D (n - 1)) (dg D (n - 2)) (dg X n * 1000000000 + dg X (n - 1)) (dg X (n - 2)) (X / D) ha ht1 hn σ hT d1 d2 (by omega) x3 hl3 hq up dn (mQ o as M0 N S (fun x σ' => x = some (.long (lN (X / D))) ∧ keep a σ σ' ∧ σ'.2.1 15 = σ.2.1 15 ∧ σ'.2.1 16 = σ.2.1 16 ∧ (∀ i, (i < t0 ∨ t0 + n < i) → σ'.2.1 14 i = σ.2.1 14 i) ∧ ∀ j, j < n + 1 → σ'.2.1 14 (t0 + j) = nI (dg (X % D) j))) M hM (fun g rest hg1 hg2 hg9 => ?_) ((dg X n * 1000000000 + dg X (n - 1)) / dg D (n - 1)) ((Nat.le_div_iff_mul_le hT).mpr hq1) (Nat.div_mul_le_self _ _)
  · rw [hgg] at h5; exact h5
  · refine xn_lconst (q := 129) 0 dX9_digit_128 rfl (by decide) ?_
    refine x_lstore (q := 131) (ls' := [(0, _), (1, _), (2, _), (3, _), (5, _), (7, _), (9, _), (11, _), (13, _)]) [1, 2, 3, 4, 5, 6, 7, 8, 0] dX9_digit_129 rfl (by decide) rfl ?_
    refine xn_iconst (q := 132) 0 dX9_digit_131 rfl (by decide) ?_
    refine x_istore (q := 134) (ls' := [(0, _), (1, _), (2, _), (3, _), (5, _), (7, _), (9, _), (11, _), (13, _), (15, _)]) [1, 2, 3, 4, 5, 6, 7, 8, 9, 0] dX9_digit_132 rfl (by decide) rfl ?_
    refine x_ls (ls' := [(0, _), (1, _), (2, _), (9, _), (13, _), (15, _)]) [0, 1, 2, 6, 8, 9] rfl ?_
    refine c_dig_2 G l o as M0 N S d a t0 n g X D ha ha15 ht0 ht1 hg9 hDn σ hlD _ (fun c V σ1 M hV hVe hc hk hz hs hw h1 hM => ?_) (n + 1) 0 (Nat.zero_add _) 0 0 σ M (by decide) (by rw [Nat.pow_zero, Nat.mod_one, Nat.mod_one]; omega) (by decide) keep.rfl' rfl rfl (fun i _ => rfl) (fun j h => absurd h (Nat.not_lt_zero j)) (fun j _ h => hlX j h) hM
    rw [Nat.mod_eq_of_lt (Nat.lt_of_lt_of_le hDn (B9_mono (Nat.le_succ n))), Nat.mod_eq_of_lt hX1] at hVe
    obtain ⟨fin0, fin1⟩ := kd_sub hD hDn hV hg1 hg2 hVe
    refine x_lload (q := 246) dX9_digit_244 rfl rfl ?_
    refine xn_lconst (q := 247) 0 dX9_digit_246 rfl (by decide) ?_
    refine xn_lcmp_ne (q1 := 248) (q := 251) 254 dX9_digit_247 rfl dX9_digit_248 (by decide) rfl (by omega) (by omega) (fun hc247 => ?_) (fun hc247 => ?_)
    · refine xn_iconst (q := 255) 0 dX9_digit_254 rfl (by decide) ?_
      refine x_istore (q := 257) (ls' := [(0, _), (1, _), (2, _), (9, _), (13, _), (15, _)]) [1, 2, 3, 4, 5, 0] dX9_digit_255 rfl (by decide) rfl ?_
      refine xn_iconst (q := 258) 0 dX9_digit_257 rfl (by decide) ?_
      refine x_istore (q := 260) (ls' := [(0, _), (1, _), (2, _), (9, _), (13, _), (15, _), (16, _)]) [1, 2, 3, 4, 5, 6, 0] dX9_digit_258 rfl (by decide) rfl ?_
      refine x_ls (ls' := [(0, _), (1, _), (2, _), (9, _), (15, _), (16, _)]) [0, 1, 2, 3, 5, 6] rfl ?_
      have f1 := fin1 hc247
      have hlD1 : ∀ k, k < n → σ1.2.1 14 (6000 + k) = nI (dg D k) := fun k h => (hw _ (by omega)).trans (hlD k h)
      have h6 := c_dig_3 G l o as M0 N S d a t0 n g X D ha ha15 ht0 ht1 hg9 hDn σ1 hlD1 V (mQ o as M0 N S (fun x σ' => x = some (.long (lN (X / D))) ∧ keep a σ σ' ∧ σ'.2.1 15 = σ.2.1 15 ∧ σ'.2.1 16 = σ.2.1 16 ∧ (∀ i, (i < t0 ∨ t0 + n < i) → σ'.2.1 14 i = σ.2.1 14 i) ∧ ∀ j, j < n + 1 → σ'.2.1 14 (t0 + j) = nI (dg (X % D) j))) (fun c σ3 M hk3 hz3 hs3 hw3 h3 hM => ?_) (n + 1) 0 (Nat.zero_add _) σ1 M keep.rfl' rfl rfl (fun i _ => rfl) (fun j h => absurd h (Nat.not_lt_zero j)) (fun j _ h => h1 j (by omega)) hM
      · rw [cy_zero] at h6; exact h6
      · refine x_lload (q := 341) dX9_digit_339 rfl rfl ?_
        refine xn_lconst (q := 342) 1 dX9_digit_341 rfl (by decide) ?_
        refine xn_lsub (q := 343) dX9_digit_342 rfl (by rw [f1.1]; exact Nat.le_add_left 1 _) ?_
        refine x_lret rfl dX9_digit_343 (m_ret hM ⟨by rw [f1.1, Nat.add_sub_cancel], hk.trans hk3, hz3.trans hz, hs3.trans hs, fun i hi => (hw3 i hi).trans (hw i hi), fun j hj => ?_⟩)
        rw [h3 j hj, f1.2, ← Nat.one_mul (B9 ^ (n + 1))]
        exact congrArg nI (dg_add_mul hj)
    · refine x_lload (q := 253) dX9_digit_251 rfl rfl ?_
      have f0 := fin0 hc247
      exact x_lret rfl dX9_digit_253 (m_ret hM ⟨by rw [f0.1], hk, hz, hs, hw, fun j hj => by rw [← f0.2]; exact h1 j hj⟩)
end XD2
