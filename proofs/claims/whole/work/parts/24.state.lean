section XH
section
variable {G : xG} {l : Launch} {Y : xY} {d : Nat} {Q : xPost} {pc q : Nat} {ls : List (Nat × Value)} {st : List Value} {M M0 : xM} {N S : Nat} {o : Nat} {as : Nat → Nat} {σ : mS}
theorem m_putG {index : Nat} {v : Int32} {ty : FieldType} (hM : mAt o as σ M0 M) (k : Nat) (hw : Cond.fieldLink Y.1.cls index (TX9 k).1 (TX9 k).2.1 (TX9 k).2.2.1 ∈ xW) (hk : k < 38) (hfin : (TX9 k).2.2.2 = false) (hty : parseFieldDescriptor (TX9 k).2.2.1 = some ty) (hs : (mF as σ.1).set k (.int v) = mF as (mu σ.1 k v)) (hd : decode Y.2.1 pc = .ok (.putfield index, 3)) (hq : pc + 3 = q) (hn : narrow ty (.int v) = .int v) (hfit : fits ty (.int v) = true) (kk : ∀ (M' : xM) (σ' : mS), (∀ i, i ≠ k → σ'.1 i = σ.1 i) → σ'.1 k = v → σ'.2 = σ.2 → mAt o as σ' M0 M' → xX G l Y d Q q ls st M' N S) : xX G l Y d Q pc ls (.int v :: .ref o :: st) M N S :=
  m_put hM k hw hk hfin hty hs hd hq hn hfit (fun M' hM' => kk M' (mu σ.1 k v, σ.2) (fun i hi => mu_n hi) (mu_s _ _ _) rfl hM')
end
def onlyTC (σ σ' : mS) : Prop := (∀ k, k ≠ 21 → σ'.1 k = σ.1 k) ∧ σ'.2.1 = σ.2.1 ∧ ∀ k, k ≠ 20 → σ'.2.2 k = σ.2.2 k
theorem onlyTC.rfl' {σ : mS} : onlyTC σ σ := ⟨fun _ _ => rfl, rfl, fun _ _ => rfl⟩
theorem onlyTC.trans {σ σ' σ'' : mS} (h : onlyTC σ σ') (h2 : onlyTC σ' σ'') : onlyTC σ σ'' := ⟨fun k hk => (h2.1 k hk).trans (h.1 k hk), h2.2.1.trans h.2.1, fun k hk => (h2.2.2 k hk).trans (h.2.2 k hk)⟩
theorem onlyT.c {σ σ' : mS} (h : onlyT σ σ') : onlyTC σ σ' := ⟨fun k _ => by rw [h.1], h.2.1, h.2.2⟩
theorem onlyTC.inc {σ σ' : mS} (a : ∀ i, i ≠ 21 → σ'.1 i = σ.1 i) (b : σ'.2 = σ.2) : onlyTC σ σ' := ⟨a, by rw [b], fun k _ => by rw [b]⟩
theorem onlyTC.cf {σ σ' : mS} {c : mCf} (h : onlyTC σ σ') (hc : Cf σ c) : Cf σ' c := by
  unfold Cf at *
  rw [h.1 3 (by decide), h.2.1]
  exact hc
theorem Td.same {σ σ' : mS} {T : Nat → Int} (h : Td σ T) (b : σ'.2 = σ.2) : Td σ' T := fun j hj => by rw [b]; exact h j hj
theorem bI_eq {b : Bool} : bI b = 0 ↔ b = false := by cases b <;> decide
def heightP (c : mCf) (T : Nat → Int) (r node : Nat) : (Nat → Int) × Nat :=
  let A : (Nat → Int) × Nat := if 0 < node ∧ node < c.m then (addT (rMoveP c r T (node - 1)) (28 * r + 4 * node) (-384 * c.E (node - 1)), r + 1) else (T, r)
  let B : Nat → Int := if c.Hi node = true then
      (if node < c.m then addT (addT A.1 (28 * A.2 + 4 * node) 1) (28 * A.2 + 9 * c.m) (c.Se node) else addT (rMoveP c A.2 A.1 (node - 1)) (28 * A.2 + 9 * c.m) (384 * c.E (node - 1) * c.Se node))
    else
      (let C := if node < c.m then addT (addT A.1 (28 * A.2 + (4 * node + 3)) 1) (28 * A.2 + colP c node 0) (-1) else A.1
       if 0 < node then addT (loadsP c A.2 (addT C (28 * A.2 + (4 * node - 1)) (-1)) (node - 1) 0 1) (28 * A.2 + colP c (node - 1) 4) (-1) else C)
  (B, A.2 + 1)
def turnP (c : mCf) (T : Nat → Int) (r node : Nat) : (Nat → Int) × Nat :=
  let lf : Bool := decide (0 < node) && !c.Hg (2 * node - 1)
  let rt : Bool := decide (node < c.m) && !c.Hg (2 * node)
  let A : (Nat → Int) × Nat := if (decide (0 < node) && c.Hg (2 * node - 1)) = true then (rMomP c r T (node - 1) 1, r + 1) else (T, r)
  let B : (Nat → Int) × Nat := if (decide (node < c.m) && c.Hg (2 * node)) = true then (addT A.1 (28 * A.2 + (4 * node + 2)) 1, A.2 + 1) else A
  if (lf || rt) = false then B
  else if c.Tu node = true then
    (let C : (Nat → Int) × Nat := if lf = true then (rTurnP c B.2 B.1 (node - 1), B.2 + 1) else B
     if rt = true then (addT C.1 (28 * C.2 + (4 * node + 1)) 1, C.2 + 1) else C)
  else
    (let C : (Nat → Int) × Nat := if (lf && rt) = true then (addT (rTurnP c B.2 B.1 (node - 1)) (28 * B.2 + (4 * node + 1)) (-32 * c.E (node - 1)), B.2 + 1) else B
     let D : Nat → Int := if lf = true then rMomP c C.2 C.1 (node - 1) 1 else C.1
     let F : Nat → Int := if rt = true then addT D (28 * C.2 + (4 * node + 2)) (-4) else D
     (F, C.2 + 1))
set_option maxRecDepth 100000 in
set_option maxHeartbeats 4000000 in
theorem c_heightAt (G : xG) (l : Launch) (o : Nat) (as : Nat → Nat) (M0 : xM) (N S : Nat) (d : Nat) (σ : mS) (c : mCf) (r node : Nat) (T : Nat → Int) (hc : Cf σ c) (hr : σ.1 21 = nI r) (hr2 : r ≤ 10) (hr3 : 0 < node → node < c.m → r ≤ 8) (hnode : node ≤ c.m) (hT : Td σ T) : mC G l o as M0 N S YX9_heightAt (d + 3) [.int (nI node)] σ (fun x σ' => x = none ∧ onlyTC σ σ' ∧ Td σ' (heightP c T r node).1 ∧ σ'.1 21 = nI (heightP c T r node).2) := by
  obtain ⟨ok, hm, hL, hE, hH, hHi, hTu, hSe⟩ := id hc
  obtain ⟨m1, m3, okL, okE, okS⟩ := ok
  have hHn := hHi node (by omega)
  have hSn := hSe node (by omega)
  have okSn := okS node (by omega)
  have hE1 := hE (node - 1) (by omega)
  have okE1 := okE (node - 1) (by omega)
  refine mC.of (ls := [(0, .ref o), (1, .int (nI node))]) (by decide) (Nat.le_of_ble_eq_true rfl) rfl fun M hM => ?_
  by_cases h0 : 0 < node <;> by_cases hR : node < c.m <;> cases hB : c.Hi node
  · refine x_iload_n (q := 1) dX9_heightAt_0 rfl rfl ?_
    refine x_aload_n (q := 2) dX9_heightAt_1 rfl rfl ?_
    refine m_get (q := 5) hM 3 fwX9_93 (by decide) dX9_heightAt_2 rfl rfl ?_
    rw [(onlyTC.rfl').1 3 (by decide), hm]
    refine xn_icmp_ge (q := 8) 12 dX9_heightAt_5 (by decide) rfl (by omega) (by omega) (fun hc5 => absurd hc5 (by omega)) (fun hc5 => ?_)
    refine xn_iconst (q := 9) 1 dX9_heightAt_8 rfl (by decide) ?_
    refine x_goto 13 dX9_heightAt_9 (by decide) ?_
    refine x_istore_n (q := 14) (ls' := [(0, _), (1, _), (2, _)]) [1, 2, 0] dX9_heightAt_13 rfl (by decide) rfl ?_
    refine x_iload_n (q := 15) dX9_heightAt_14 rfl rfl ?_
    refine xn_if_le (q := 18) 59 dX9_heightAt_15 (by decide) rfl (by omega) (fun hc15 => absurd hc15 (by omega)) (fun hc15 => ?_)
    refine x_iload_n (q := 19) dX9_heightAt_18 rfl rfl ?_
    refine xn_if_eq (q := 22) 59 dX9_heightAt_19 (by decide) rfl (by omega) (fun hc19 => absurd hc19 (by decide)) (fun hc19 => ?_)
    refine x_aload_n (q := 23) dX9_heightAt_22 rfl rfl ?_
    refine x_iload_n (q := 24) dX9_heightAt_23 rfl rfl ?_
    refine xn_iconst (q := 25) 1 dX9_heightAt_24 rfl (by decide) ?_
    refine xn_isub (q := 26) dX9_heightAt_25 rfl (by omega) ?_
    refine m_call (q := 29) (As := [_]) hM imX9_rightMove ivX9_rightMove ilX9_rightMove mwX9_166 xciX9 dX9_heightAt_26 rfl rfl rfl (Nat.le_of_ble_eq_true rfl) ?_
    refine (c_rightMove G l o as M0 N S d σ c (r) (node - 1) _ ((onlyTC.rfl').cf hc) hr (by omega) (by omega) hT).mono (fun x σc1 hp => ?_)
    obtain ⟨rfl, qc1, tc1⟩ := hp
    intro M hM
    have oc1 : onlyTC σ σc1 := (onlyTC.rfl').trans qc1.c
    have hrc1 : σc1.1 21 = nI (r) := by rw [qc1.1]; exact hr
    show xX G l _ (d + 3) _ _ _ [] M N S
    refine x_aload_n (q := 30) dX9_heightAt_29 rfl rfl ?_
    refine xn_iconst (q := 31) 4 dX9_heightAt_30 rfl (by decide) ?_
    refine x_iload_n (q := 32) dX9_heightAt_31 rfl rfl ?_
    refine xn_imul (q := 33) dX9_heightAt_32 rfl ?_
    refine x_ldc2 (q := 36) (-384) dX9_heightAt_33 rfl cwX9_170 ?_
    refine x_topl (y := iL (-384)) (by decide) ?_
    refine x_aload_n (q := 37) dX9_heightAt_36 rfl rfl ?_
    refine m_get (q := 40) hM 5 fwX9_16 (by decide) dX9_heightAt_37 rfl rfl ?_
    refine x_iload_n (q := 41) dX9_heightAt_40 rfl rfl ?_
    refine xn_iconst (q := 42) 1 dX9_heightAt_41 rfl (by decide) ?_
    refine xn_isub (q := 43) dX9_heightAt_42 rfl (by omega) ?_
    refine m_iald (q := 44) hM (n := 3) (by decide) dX9_heightAt_43 rfl (by omega) ?_
    rw [(oc1).2.1, hE1]
    refine xn_i2l (q := 45) dX9_heightAt_44 rfl (by omega) ?_
    refine xi_lmul (q := 46) dX9_heightAt_45 rfl rfl (lN_i' _) ?_
    refine m_call (q := 49) (As := [_, _]) hM imX9_term ivX9_term ilX9_term mwX9_149 xciX9 dX9_heightAt_46 rfl rfl rfl (Nat.le_of_ble_eq_true rfl) ?_
    refine (c_term G l o as M0 N S (d + 2) σc1 (r) (4 * node) _ _ (-384 * c.E (node - 1)) (by first | rfl | (simp only [lN_i', ← Int64.ofInt_mul, Int.natCast_mul]; rfl)) hrc1 (by omega) tc1).mono (fun x σc2 hp => ?_)
    obtain ⟨rfl, qc2, tc2⟩ := hp
    intro M hM
    have oc2 : onlyTC σ σc2 := (oc1).trans qc2.c
    have hrc2 : σc2.1 21 = nI (r) := by rw [qc2.1]; exact hrc1
    show xX G l _ (d + 3) _ _ _ [] M N S
    refine x_aload_n (q := 50) dX9_heightAt_49 rfl rfl ?_
    refine x_dup (q := 51) dX9_heightAt_50 rfl rfl ?_
    refine m_get (q := 54) hM 21 fwX9_139 (by decide) dX9_heightAt_51 rfl rfl ?_
    rw [hrc2]
    refine xn_iconst (q := 55) 1 dX9_heightAt_54 rfl (by decide) ?_
    refine xn_iadd (q := 56) dX9_heightAt_55 rfl ?_
    refine m_putG (q := 59) hM 21 fwX9_139 (by decide) rfl rfl rfl dX9_heightAt_56 rfl rfl rfl (fun M σ56 a56 e56 b56 hM => ?_)
    have o56 : onlyTC σ σ56 := (oc2).trans (onlyTC.inc a56 b56)
    have t56 := (tc2).same b56
    refine x_aload_n (q := 60) dX9_heightAt_59 rfl rfl ?_
    refine m_get (q := 63) hM 7 fwX9_23 (by decide) dX9_heightAt_60 rfl rfl ?_
    refine x_iload_n (q := 64) dX9_heightAt_63 rfl rfl ?_
    refine m_zald (q := 65) hM (n := 4) (by decide) dX9_heightAt_64 rfl (by omega) ?_
    rw [(o56).2.1, hHn, hB]
    refine x_if_eq (q := 68) 137 dX9_heightAt_65 (by decide) rfl (fun hc65 => ?_) (fun hc65 => absurd rfl hc65)
    refine x_iload_n (q := 138) dX9_heightAt_137 rfl rfl ?_
    refine xn_if_eq (q := 141) 164 dX9_heightAt_138 (by decide) rfl (by omega) (fun hc138 => absurd hc138 (by decide)) (fun hc138 => ?_)
    refine x_aload_n (q := 142) dX9_heightAt_141 rfl rfl ?_
    refine xn_iconst (q := 143) 4 dX9_heightAt_142 rfl (by decide) ?_
    refine x_iload_n (q := 144) dX9_heightAt_143 rfl rfl ?_
    refine xn_imul (q := 145) dX9_heightAt_144 rfl ?_
    refine xn_iconst (q := 146) 3 dX9_heightAt_145 rfl (by decide) ?_
    refine xn_iadd (q := 147) dX9_heightAt_146 rfl ?_
    refine xn_lconst (q := 148) 1 dX9_heightAt_147 rfl (by decide) ?_
    refine m_call (q := 151) (As := [_, _]) hM imX9_term ivX9_term ilX9_term mwX9_149 xciX9 dX9_heightAt_148 rfl rfl rfl (Nat.le_of_ble_eq_true rfl) ?_
    refine (c_term G l o as M0 N S (d + 2) σ56 (r + 1) (4 * node + 3) _ _ (1) (by first | rfl | (simp only [lN_i', ← Int64.ofInt_mul, Int.natCast_mul]; rfl)) e56 (by omega) t56).mono (fun x σc3 hp => ?_)
    obtain ⟨rfl, qc3, tc3⟩ := hp
    intro M hM
    have oc3 : onlyTC σ σc3 := (o56).trans qc3.c
    have hrc3 : σc3.1 21 = nI (r + 1) := by rw [qc3.1]; exact e56
    show xX G l _ (d + 3) _ _ _ [] M N S
    refine x_aload_n (q := 152) dX9_heightAt_151 rfl rfl ?_
    refine x_aload_n (q := 153) dX9_heightAt_152 rfl rfl ?_
    refine x_iload_n (q := 154) dX9_heightAt_153 rfl rfl ?_
    refine xn_iconst (q := 155) 0 dX9_heightAt_154 rfl (by decide) ?_
    refine m_call (q := 158) (As := [_, _]) hM imX9_column ivX9_column ilX9_column mwX9_144 xciX9 dX9_heightAt_155 rfl rfl rfl (Nat.le_of_ble_eq_true rfl) ?_
    refine (c_column G l o as M0 N S (d + 2) σc3 c.m (node) (0) (by rw [(oc3).1 3 (by decide)]; exact hm)).mono (fun x σ9 hp => ?_)
    obtain ⟨rfl, e9⟩ := hp
    intro M hM
    rw [e9] at hM
    clear e9 σ9
    show xX G l _ (d + 3) _ _ _ [.int (nI (4 * c.m + 5 * (node) + (0))), .ref o] M N S
    refine x_ldc2 (q := 161) (-1) dX9_heightAt_158 rfl cwX9_176 ?_
    refine x_topl (y := iL (-1)) (by decide) ?_
    refine m_call (q := 164) (As := [_, _]) hM imX9_term ivX9_term ilX9_term mwX9_149 xciX9 dX9_heightAt_161 rfl rfl rfl (Nat.le_of_ble_eq_true rfl) ?_
    refine (c_term G l o as M0 N S (d + 2) σc3 (r + 1) (4 * c.m + 5 * node + 0) _ _ (-1) (by first | rfl | (simp only [lN_i', ← Int64.ofInt_mul, Int.natCast_mul]; rfl)) hrc3 (by omega) tc3).mono (fun x σc4 hp => ?_)
    obtain ⟨rfl, qc4, tc4⟩ := hp
    intro M hM
    have oc4 : onlyTC σ σc4 := (oc3).trans qc4.c
    have hrc4 : σc4.1 21 = nI (r + 1) := by rw [qc4.1]; exact hrc3
    show xX G l _ (d + 3) _ _ _ [] M N S
    refine x_iload_n (q := 165) dX9_heightAt_164 rfl rfl ?_
    refine xn_if_le (q := 168) 204 dX9_heightAt_165 (by decide) rfl (by omega) (fun hc165 => absurd hc165 (by omega)) (fun hc165 => ?_)
    refine x_aload_n (q := 169) dX9_heightAt_168 rfl rfl ?_
    refine xn_iconst (q := 170) 4 dX9_heightAt_169 rfl (by decide) ?_
    refine x_iload_n (q := 171) dX9_heightAt_170 rfl rfl ?_
    refine xn_imul (q := 172) dX9_heightAt_171 rfl ?_
    refine xn_iconst (q := 173) 1 dX9_heightAt_172 rfl (by decide) ?_
    refine xn_isub (q := 174) dX9_heightAt_173 rfl (by omega) ?_
    refine x_ldc2 (q := 177) (-1) dX9_heightAt_174 rfl cwX9_176 ?_
    refine x_topl (y := iL (-1)) (by decide) ?_
    refine m_call (q := 180) (As := [_, _]) hM imX9_term ivX9_term ilX9_term mwX9_149 xciX9 dX9_heightAt_177 rfl rfl rfl (Nat.le_of_ble_eq_true rfl) ?_
    refine (c_term G l o as M0 N S (d + 2) σc4 (r + 1) (4 * node - 1) _ _ (-1) (by first | rfl | (simp only [lN_i', ← Int64.ofInt_mul, Int.natCast_mul]; rfl)) hrc4 (by omega) tc4).mono (fun x σc5 hp => ?_)
    obtain ⟨rfl, qc5, tc5⟩ := hp
    intro M hM
    have oc5 : onlyTC σ σc5 := (oc4).trans qc5.c
    have hrc5 : σc5.1 21 = nI (r + 1) := by rw [qc5.1]; exact hrc4
    show xX G l _ (d + 3) _ _ _ [] M N S
    refine x_aload_n (q := 181) dX9_heightAt_180 rfl rfl ?_
    refine x_iload_n (q := 182) dX9_heightAt_181 rfl rfl ?_
    refine xn_iconst (q := 183) 1 dX9_heightAt_182 rfl (by decide) ?_
    refine xn_isub (q := 184) dX9_heightAt_183 rfl (by omega) ?_
    refine xn_iconst (q := 185) 0 dX9_heightAt_184 rfl (by decide) ?_
    refine xn_lconst (q := 186) 1 dX9_heightAt_185 rfl (by decide) ?_
    refine m_call (q := 189) (As := [_, _, _]) hM imX9_loads ivX9_loads ilX9_loads mwX9_156 xciX9 dX9_heightAt_186 rfl rfl rfl (Nat.le_of_ble_eq_true rfl) ?_
    refine (c_loads G l o as M0 N S (d + 1) σc5 c (r + 1) (node - 1) 0 _ _ (1) rfl ((oc5).cf hc) hrc5 (by omega) (by omega) (by decide) tc5).mono (fun x σc6 hp => ?_)
    obtain ⟨rfl, qc6, tc6⟩ := hp
    intro M hM
    have oc6 : onlyTC σ σc6 := (oc5).trans qc6.c
    have hrc6 : σc6.1 21 = nI (r + 1) := by rw [qc6.1]; exact hrc5
    show xX G l _ (d + 3) _ _ _ [] M N S
    refine x_aload_n (q := 190) dX9_heightAt_189 rfl rfl ?_
    refine x_aload_n (q := 191) dX9_heightAt_190 rfl rfl ?_
    refine x_iload_n (q := 192) dX9_heightAt_191 rfl rfl ?_
    refine xn_iconst (q := 193) 1 dX9_heightAt_192 rfl (by decide) ?_
    refine xn_isub (q := 194) dX9_heightAt_193 rfl (by omega) ?_
    refine xn_iconst (q := 195) 4 dX9_heightAt_194 rfl (by decide) ?_
    refine m_call (q := 198) (As := [_, _]) hM imX9_column ivX9_column ilX9_column mwX9_144 xciX9 dX9_heightAt_195 rfl rfl rfl (Nat.le_of_ble_eq_true rfl) ?_
    refine (c_column G l o as M0 N S (d + 2) σc6 c.m (node - 1) (4) (by rw [(oc6).1 3 (by decide)]; exact hm)).mono (fun x σ9 hp => ?_)
    obtain ⟨rfl, e9⟩ := hp
    intro M hM
    rw [e9] at hM
    clear e9 σ9
    show xX G l _ (d + 3) _ _ _ [.int (nI (4 * c.m + 5 * (node - 1) + (4))), .ref o] M N S
    refine x_ldc2 (q := 201) (-1) dX9_heightAt_198 rfl cwX9_176 ?_
    refine x_topl (y := iL (-1)) (by decide) ?_
    refine m_call (q := 204) (As := [_, _]) hM imX9_term ivX9_term ilX9_term mwX9_149 xciX9 dX9_heightAt_201 rfl rfl rfl (Nat.le_of_ble_eq_true rfl) ?_
    refine (c_term G l o as M0 N S (d + 2) σc6 (r + 1) (4 * c.m + 5 * (node - 1) + 4) _ _ (-1) (by first | rfl | (simp only [lN_i', ← Int64.ofInt_mul, Int.natCast_mul]; rfl)) hrc6 (by omega) tc6).mono (fun x σc7 hp => ?_)
    obtain ⟨rfl, qc7, tc7⟩ := hp
    intro M hM
    have oc7 : onlyTC σ σc7 := (oc6).trans qc7.c
    have hrc7 : σc7.1 21 = nI (r + 1) := by rw [qc7.1]; exact hrc6
    show xX G l _ (d + 3) _ _ _ [] M N S
    refine x_aload_n (q := 205) dX9_heightAt_204 rfl rfl ?_
    refine x_dup (q := 206) dX9_heightAt_205 rfl rfl ?_
    refine m_get (q := 209) hM 21 fwX9_139 (by decide) dX9_heightAt_206 rfl rfl ?_
    rw [hrc7]
    refine xn_iconst (q := 210) 1 dX9_heightAt_209 rfl (by decide) ?_
    refine xn_iadd (q := 211) dX9_heightAt_210 rfl ?_
    refine m_putG (q := 214) hM 21 fwX9_139 (by decide) rfl rfl rfl dX9_heightAt_211 rfl rfl rfl (fun M σ211 a211 e211 b211 hM => ?_)
    have o211 : onlyTC σ σ211 := (oc7).trans (onlyTC.inc a211 b211)
    have t211 := (tc7).same b211
    refine x_vret rfl dX9_heightAt_214 (m_ret hM ⟨rfl, o211, ?_, ?_⟩)
    · simp only [heightP, h0, hR, hB, and_self, and_true, true_and, and_false, false_and, if_true, if_false, reduceIte, Bool.false_eq_true]; exact t211
    · simp only [heightP, h0, hR, hB, and_self, and_true, true_and, and_false, false_and, if_true, if_false, reduceIte, Bool.false_eq_true]; exact e211
  · refine x_iload_n (q := 1) dX9_heightAt_0 rfl rfl ?_
    refine x_aload_n (q := 2) dX9_heightAt_1 rfl rfl ?_
    refine m_get (q := 5) hM 3 fwX9_93 (by decide) dX9_heightAt_2 rfl rfl ?_
    rw [(onlyTC.rfl').1 3 (by decide), hm]
    refine xn_icmp_ge (q := 8) 12 dX9_heightAt_5 (by decide) rfl (by omega) (by omega) (fun hc5 => absurd hc5 (by omega)) (fun hc5 => ?_)
    refine xn_iconst (q := 9) 1 dX9_heightAt_8 rfl (by decide) ?_
    refine x_goto 13 dX9_heightAt_9 (by decide) ?_
    refine x_istore_n (q := 14) (ls' := [(0, _), (1, _), (2, _)]) [1, 2, 0] dX9_heightAt_13 rfl (by decide) rfl ?_
    refine x_iload_n (q := 15) dX9_heightAt_14 rfl rfl ?_
    refine xn_if_le (q := 18) 59 dX9_heightAt_15 (by decide) rfl (by omega) (fun hc15 => absurd hc15 (by omega)) (fun hc15 => ?_)
    refine x_iload_n (q := 19) dX9_heightAt_18 rfl rfl ?_
    refine xn_if_eq (q := 22) 59 dX9_heightAt_19 (by decide) rfl (by omega) (fun hc19 => absurd hc19 (by decide)) (fun hc19 => ?_)
    refine x_aload_n (q := 23) dX9_heightAt_22 rfl rfl ?_
    refine x_iload_n (q := 24) dX9_heightAt_23 rfl rfl ?_
    refine xn_iconst (q := 25) 1 dX9_heightAt_24 rfl (by decide) ?_
    refine xn_isub (q := 26) dX9_heightAt_25 rfl (by omega) ?_
    refine m_call (q := 29) (As := [_]) hM imX9_rightMove ivX9_rightMove ilX9_rightMove mwX9_166 xciX9 dX9_heightAt_26 rfl rfl rfl (Nat.le_of_ble_eq_true rfl) ?_
    refine (c_rightMove G l o as M0 N S d σ c (r) (node - 1) _ ((onlyTC.rfl').cf hc) hr (by omega) (by omega) hT).mono (fun x σc1 hp => ?_)
    obtain ⟨rfl, qc1, tc1⟩ := hp
    intro M hM
    have oc1 : onlyTC σ σc1 := (onlyTC.rfl').trans qc1.c
    have hrc1 : σc1.1 21 = nI (r) := by rw [qc1.1]; exact hr
    show xX G l _ (d + 3) _ _ _ [] M N S
    refine x_aload_n (q := 30) dX9_heightAt_29 rfl rfl ?_
    refine xn_iconst (q := 31) 4 dX9_heightAt_30 rfl (by decide) ?_
    refine x_iload_n (q := 32) dX9_heightAt_31 rfl rfl ?_
    refine xn_imul (q := 33) dX9_heightAt_32 rfl ?_
    refine x_ldc2 (q := 36) (-384) dX9_heightAt_33 rfl cwX9_170 ?_
    refine x_topl (y := iL (-384)) (by decide) ?_
    refine x_aload_n (q := 37) dX9_heightAt_36 rfl rfl ?_
    refine m_get (q := 40) hM 5 fwX9_16 (by decide) dX9_heightAt_37 rfl rfl ?_
    refine x_iload_n (q := 41) dX9_heightAt_40 rfl rfl ?_
    refine xn_iconst (q := 42) 1 dX9_heightAt_41 rfl (by decide) ?_
    refine xn_isub (q := 43) dX9_heightAt_42 rfl (by omega) ?_
    refine m_iald (q := 44) hM (n := 3) (by decide) dX9_heightAt_43 rfl (by omega) ?_
    rw [(oc1).2.1, hE1]
    refine xn_i2l (q := 45) dX9_heightAt_44 rfl (by omega) ?_
    refine xi_lmul (q := 46) dX9_heightAt_45 rfl rfl (lN_i' _) ?_
    refine m_call (q := 49) (As := [_, _]) hM imX9_term ivX9_term ilX9_term mwX9_149 xciX9 dX9_heightAt_46 rfl rfl rfl (Nat.le_of_ble_eq_true rfl) ?_
    refine (c_term G l o as M0 N S (d + 2) σc1 (r) (4 * node) _ _ (-384 * c.E (node - 1)) (by first | rfl | (simp only [lN_i', ← Int64.ofInt_mul, Int.natCast_mul]; rfl)) hrc1 (by omega) tc1).mono (fun x σc2 hp => ?_)
    obtain ⟨rfl, qc2, tc2⟩ := hp
    intro M hM
    have oc2 : onlyTC σ σc2 := (oc1).trans qc2.c
    have hrc2 : σc2.1 21 = nI (r) := by rw [qc2.1]; exact hrc1
    show xX G l _ (d + 3) _ _ _ [] M N S
    refine x_aload_n (q := 50) dX9_heightAt_49 rfl rfl ?_
    refine x_dup (q := 51) dX9_heightAt_50 rfl rfl ?_
    refine m_get (q := 54) hM 21 fwX9_139 (by decide) dX9_heightAt_51 rfl rfl ?_
    rw [hrc2]
    refine xn_iconst (q := 55) 1 dX9_heightAt_54 rfl (by decide) ?_
    refine xn_iadd (q := 56) dX9_heightAt_55 rfl ?_
    refine m_putG (q := 59) hM 21 fwX9_139 (by decide) rfl rfl rfl dX9_heightAt_56 rfl rfl rfl (fun M σ56 a56 e56 b56 hM => ?_)
    have o56 : onlyTC σ σ56 := (oc2).trans (onlyTC.inc a56 b56)
    have t56 := (tc2).same b56
    refine x_aload_n (q := 60) dX9_heightAt_59 rfl rfl ?_
    refine m_get (q := 63) hM 7 fwX9_23 (by decide) dX9_heightAt_60 rfl rfl ?_
    refine x_iload_n (q := 64) dX9_heightAt_63 rfl rfl ?_
    refine m_zald (q := 65) hM (n := 4) (by decide) dX9_heightAt_64 rfl (by omega) ?_
    rw [(o56).2.1, hHn, hB]
    refine x_if_eq (q := 68) 137 dX9_heightAt_65 (by decide) rfl (fun hc65 => absurd hc65 (by decide)) (fun hc65 => ?_)
    refine x_iload_n (q := 69) dX9_heightAt_68 rfl rfl ?_
    refine xn_if_eq (q := 72) 98 dX9_heightAt_69 (by decide) rfl (by omega) (fun hc69 => absurd hc69 (by decide)) (fun hc69 => ?_)
    refine x_aload_n (q := 73) dX9_heightAt_72 rfl rfl ?_
    refine xn_iconst (q := 74) 4 dX9_heightAt_73 rfl (by decide) ?_
    refine x_iload_n (q := 75) dX9_heightAt_74 rfl rfl ?_
    refine xn_imul (q := 76) dX9_heightAt_75 rfl ?_
    refine xn_lconst (q := 77) 1 dX9_heightAt_76 rfl (by decide) ?_
    refine m_call (q := 80) (As := [_, _]) hM imX9_term ivX9_term ilX9_term mwX9_149 xciX9 dX9_heightAt_77 rfl rfl rfl (Nat.le_of_ble_eq_true rfl) ?_
    refine (c_term G l o as M0 N S (d + 2) σ56 (r + 1) (4 * node) _ _ (1) (by first | rfl | (simp only [lN_i', ← Int64.ofInt_mul, Int.natCast_mul]; rfl)) e56 (by omega) t56).mono (fun x σc3 hp => ?_)
    obtain ⟨rfl, qc3, tc3⟩ := hp
    intro M hM
    have oc3 : onlyTC σ σc3 := (o56).trans qc3.c
    have hrc3 : σc3.1 21 = nI (r + 1) := by rw [qc3.1]; exact e56
    show xX G l _ (d + 3) _ _ _ [] M N S
    refine x_aload_n (q := 81) dX9_heightAt_80 rfl rfl ?_
    refine x_aload_n (q := 82) dX9_heightAt_81 rfl rfl ?_
    refine m_call (q := 85) (As := []) hM imX9_settling ivX9_settling ilX9_settling mwX9_172 xciX9 dX9_heightAt_82 rfl rfl rfl (Nat.le_of_ble_eq_true rfl) ?_
    refine (c_settling G l o as M0 N S (d + 2) σc3 c.m (by rw [(oc3).1 3 (by decide)]; exact hm)).mono (fun x σ9 hp => ?_)
    obtain ⟨rfl, e9⟩ := hp
    intro M hM
    rw [e9] at hM
    clear e9 σ9
    show xX G l _ (d + 3) _ _ _ [.int (nI (9 * c.m)), .ref o] M N S
    refine x_aload_n (q := 86) dX9_heightAt_85 rfl rfl ?_
    refine m_get (q := 89) hM 9 fwX9_29 (by decide) dX9_heightAt_86 rfl rfl ?_
    refine x_iload_n (q := 90) dX9_heightAt_89 rfl rfl ?_
    refine m_iald (q := 91) hM (n := 4) (by decide) dX9_heightAt_90 rfl (by omega) ?_
    rw [(oc3).2.1, hSn]
    refine xi_i2l (q := 92) dX9_heightAt_91 rfl rfl (by omega) (by omega) ?_
    refine m_call (q := 95) (As := [_, _]) hM imX9_term ivX9_term ilX9_term mwX9_149 xciX9 dX9_heightAt_92 rfl rfl rfl (Nat.le_of_ble_eq_true rfl) ?_
    refine (c_term G l o as M0 N S (d + 2) σc3 (r + 1) (9 * c.m) _ _ (c.Se node) (by first | rfl | (simp only [lN_i', ← Int64.ofInt_mul, Int.natCast_mul]; rfl)) hrc3 (by omega) tc3).mono (fun x σc4 hp => ?_)
    obtain ⟨rfl, qc4, tc4⟩ := hp
    intro M hM
    have oc4 : onlyTC σ σc4 := (oc3).trans qc4.c
    have hrc4 : σc4.1 21 = nI (r + 1) := by rw [qc4.1]; exact hrc3
    show xX G l _ (d + 3) _ _ _ [] M N S
    refine x_goto 204 dX9_heightAt_95 (by decide) ?_
    refine x_aload_n (q := 205) dX9_heightAt_204 rfl rfl ?_
    refine x_dup (q := 206) dX9_heightAt_205 rfl rfl ?_
    refine m_get (q := 209) hM 21 fwX9_139 (by decide) dX9_heightAt_206 rfl rfl ?_
    rw [hrc4]
    refine xn_iconst (q := 210) 1 dX9_heightAt_209 rfl (by decide) ?_
    refine xn_iadd (q := 211) dX9_heightAt_210 rfl ?_
    refine m_putG (q := 214) hM 21 fwX9_139 (by decide) rfl rfl rfl dX9_heightAt_211 rfl rfl rfl (fun M σ211 a211 e211 b211 hM => ?_)
    have o211 : onlyTC σ σ211 := (oc4).trans (onlyTC.inc a211 b211)
    have t211 := (tc4).same b211
    refine x_vret rfl dX9_heightAt_214 (m_ret hM ⟨rfl, o211, ?_, ?_⟩)
    · simp only [heightP, h0, hR, hB, and_self, and_true, true_and, and_false, false_and, if_true, if_false, reduceIte, Bool.false_eq_true]; exact t211
    · simp only [heightP, h0, hR, hB, and_self, and_true, true_and, and_false, false_and, if_true, if_false, reduceIte, Bool.false_eq_true]; exact e211
  · refine x_iload_n (q := 1) dX9_heightAt_0 rfl rfl ?_
    refine x_aload_n (q := 2) dX9_heightAt_1 rfl rfl ?_
    refine m_get (q := 5) hM 3 fwX9_93 (by decide) dX9_heightAt_2 rfl rfl ?_
    rw [(onlyTC.rfl').1 3 (by decide), hm]
    refine xn_icmp_ge (q := 8) 12 dX9_heightAt_5 (by decide) rfl (by omega) (by omega) (fun hc5 => ?_) (fun hc5 => absurd hc5 (by omega))
    refine xn_iconst (q := 13) 0 dX9_heightAt_12 rfl (by decide) ?_
    refine x_istore_n (q := 14) (ls' := [(0, _), (1, _), (2, _)]) [1, 2, 0] dX9_heightAt_13 rfl (by decide) rfl ?_
    refine x_iload_n (q := 15) dX9_heightAt_14 rfl rfl ?_
    refine xn_if_le (q := 18) 59 dX9_heightAt_15 (by decide) rfl (by omega) (fun hc15 => absurd hc15 (by omega)) (fun hc15 => ?_)
    refine x_iload_n (q := 19) dX9_heightAt_18 rfl rfl ?_
    refine xn_if_eq (q := 22) 59 dX9_heightAt_19 (by decide) rfl (by omega) (fun hc19 => ?_) (fun hc19 => absurd hc19 (by decide))
    refine x_aload_n (q := 60) dX9_heightAt_59 rfl rfl ?_
    refine m_get (q := 63) hM 7 fwX9_23 (by decide) dX9_heightAt_60 rfl rfl ?_
    refine x_iload_n (q := 64) dX9_heightAt_63 rfl rfl ?_
    refine m_zald (q := 65) hM (n := 4) (by decide) dX9_heightAt_64 rfl (by omega) ?_
    rw [(onlyTC.rfl').2.1, hHn, hB]
    refine x_if_eq (q := 68) 137 dX9_heightAt_65 (by decide) rfl (fun hc65 => ?_) (fun hc65 => absurd rfl hc65)
    refine x_iload_n (q := 138) dX9_heightAt_137 rfl rfl ?_
    refine xn_if_eq (q := 141) 164 dX9_heightAt_138 (by decide) rfl (by omega) (fun hc138 => ?_) (fun hc138 => absurd hc138 (by decide))
    refine x_iload_n (q := 165) dX9_heightAt_164 rfl rfl ?_
    refine xn_if_le (q := 168) 204 dX9_heightAt_165 (by decide) rfl (by omega) (fun hc165 => absurd hc165 (by omega)) (fun hc165 => ?_)
    refine x_aload_n (q := 169) dX9_heightAt_168 rfl rfl ?_
    refine xn_iconst (q := 170) 4 dX9_heightAt_169 rfl (by decide) ?_
    refine x_iload_n (q := 171) dX9_heightAt_170 rfl rfl ?_
    refine xn_imul (q := 172) dX9_heightAt_171 rfl ?_
    refine xn_iconst (q := 173) 1 dX9_heightAt_172 rfl (by decide) ?_
    refine xn_isub (q := 174) dX9_heightAt_173 rfl (by omega) ?_
    refine x_ldc2 (q := 177) (-1) dX9_heightAt_174 rfl cwX9_176 ?_
    refine x_topl (y := iL (-1)) (by decide) ?_
    refine m_call (q := 180) (As := [_, _]) hM imX9_term ivX9_term ilX9_term mwX9_149 xciX9 dX9_heightAt_177 rfl rfl rfl (Nat.le_of_ble_eq_true rfl) ?_
    refine (c_term G l o as M0 N S (d + 2) σ (r) (4 * node - 1) _ _ (-1) (by first | rfl | (simp only [lN_i', ← Int64.ofInt_mul, Int.natCast_mul]; rfl)) hr (by omega) hT).mono (fun x σc1 hp => ?_)
    obtain ⟨rfl, qc1, tc1⟩ := hp
    intro M hM
    have oc1 : onlyTC σ σc1 := (onlyTC.rfl').trans qc1.c
    have hrc1 : σc1.1 21 = nI (r) := by rw [qc1.1]; exact hr
    show xX G l _ (d + 3) _ _ _ [] M N S
    refine x_aload_n (q := 181) dX9_heightAt_180 rfl rfl ?_
    refine x_iload_n (q := 182) dX9_heightAt_181 rfl rfl ?_
    refine xn_iconst (q := 183) 1 dX9_heightAt_182 rfl (by decide) ?_
    refine xn_isub (q := 184) dX9_heightAt_183 rfl (by omega) ?_
    refine xn_iconst (q := 185) 0 dX9_heightAt_184 rfl (by decide) ?_
    refine xn_lconst (q := 186) 1 dX9_heightAt_185 rfl (by decide) ?_
    refine m_call (q := 189) (As := [_, _, _]) hM imX9_loads ivX9_loads ilX9_loads mwX9_156 xciX9 dX9_heightAt_186 rfl rfl rfl (Nat.le_of_ble_eq_true rfl) ?_
    refine (c_loads G l o as M0 N S (d + 1) σc1 c (r) (node - 1) 0 _ _ (1) rfl ((oc1).cf hc) hrc1 (by omega) (by omega) (by decide) tc1).mono (fun x σc2 hp => ?_)
    obtain ⟨rfl, qc2, tc2⟩ := hp
    intro M hM
    have oc2 : onlyTC σ σc2 := (oc1).trans qc2.c
    have hrc2 : σc2.1 21 = nI (r) := by rw [qc2.1]; exact hrc1
    show xX G l _ (d + 3) _ _ _ [] M N S
    refine x_aload_n (q := 190) dX9_heightAt_189 rfl rfl ?_
    refine x_aload_n (q := 191) dX9_heightAt_190 rfl rfl ?_
    refine x_iload_n (q := 192) dX9_heightAt_191 rfl rfl ?_
    refine xn_iconst (q := 193) 1 dX9_heightAt_192 rfl (by decide) ?_
    refine xn_isub (q := 194) dX9_heightAt_193 rfl (by omega) ?_
    refine xn_iconst (q := 195) 4 dX9_heightAt_194 rfl (by decide) ?_
    refine m_call (q := 198) (As := [_, _]) hM imX9_column ivX9_column ilX9_column mwX9_144 xciX9 dX9_heightAt_195 rfl rfl rfl (Nat.le_of_ble_eq_true rfl) ?_
    refine (c_column G l o as M0 N S (d + 2) σc2 c.m (node - 1) (4) (by rw [(oc2).1 3 (by decide)]; exact hm)).mono (fun x σ9 hp => ?_)
    obtain ⟨rfl, e9⟩ := hp
    intro M hM
    rw [e9] at hM
    clear e9 σ9
    show xX G l _ (d + 3) _ _ _ [.int (nI (4 * c.m + 5 * (node - 1) + (4))), .ref o] M N S
    refine x_ldc2 (q := 201) (-1) dX9_heightAt_198 rfl cwX9_176 ?_
    refine x_topl (y := iL (-1)) (by decide) ?_
    refine m_call (q := 204) (As := [_, _]) hM imX9_term ivX9_term ilX9_term mwX9_149 xciX9 dX9_heightAt_201 rfl rfl rfl (Nat.le_of_ble_eq_true rfl) ?_
    refine (c_term G l o as M0 N S (d + 2) σc2 (r) (4 * c.m + 5 * (node - 1) + 4) _ _ (-1) (by first | rfl | (simp only [lN_i', ← Int64.ofInt_mul, Int.natCast_mul]; rfl)) hrc2 (by omega) tc2).mono (fun x σc3 hp => ?_)
    obtain ⟨rfl, qc3, tc3⟩ := hp
    intro M hM
    have oc3 : onlyTC σ σc3 := (oc2).trans qc3.c
    have hrc3 : σc3.1 21 = nI (r) := by rw [qc3.1]; exact hrc2
    show xX G l _ (d + 3) _ _ _ [] M N S
    refine x_aload_n (q := 205) dX9_heightAt_204 rfl rfl ?_
    refine x_dup (q := 206) dX9_heightAt_205 rfl rfl ?_
    refine m_get (q := 209) hM 21 fwX9_139 (by decide) dX9_heightAt_206 rfl rfl ?_
    rw [hrc3]
    refine xn_iconst (q := 210) 1 dX9_heightAt_209 rfl (by decide) ?_
    refine xn_iadd (q := 211) dX9_heightAt_210 rfl ?_
    refine m_putG (q := 214) hM 21 fwX9_139 (by decide) rfl rfl rfl dX9_heightAt_211 rfl rfl rfl (fun M σ211 a211 e211 b211 hM => ?_)
    have o211 : onlyTC σ σ211 := (oc3).trans (onlyTC.inc a211 b211)
    have t211 := (tc3).same b211
    refine x_vret rfl dX9_heightAt_214 (m_ret hM ⟨rfl, o211, ?_, ?_⟩)
    · simp only [heightP, h0, hR, hB, and_self, and_true, true_and, and_false, false_and, if_true, if_false, reduceIte, Bool.false_eq_true]; exact t211
    · simp only [heightP, h0, hR, hB, and_self, and_true, true_and, and_false, false_and, if_true, if_false, reduceIte, Bool.false_eq_true]; exact e211
  · refine x_iload_n (q := 1) dX9_heightAt_0 rfl rfl ?_
    refine x_aload_n (q := 2) dX9_heightAt_1 rfl rfl ?_
    refine m_get (q := 5) hM 3 fwX9_93 (by decide) dX9_heightAt_2 rfl rfl ?_
    rw [(onlyTC.rfl').1 3 (by decide), hm]
    refine xn_icmp_ge (q := 8) 12 dX9_heightAt_5 (by decide) rfl (by omega) (by omega) (fun hc5 => ?_) (fun hc5 => absurd hc5 (by omega))
    refine xn_iconst (q := 13) 0 dX9_heightAt_12 rfl (by decide) ?_
    refine x_istore_n (q := 14) (ls' := [(0, _), (1, _), (2, _)]) [1, 2, 0] dX9_heightAt_13 rfl (by decide) rfl ?_
    refine x_iload_n (q := 15) dX9_heightAt_14 rfl rfl ?_
    refine xn_if_le (q := 18) 59 dX9_heightAt_15 (by decide) rfl (by omega) (fun hc15 => absurd hc15 (by omega)) (fun hc15 => ?_)
    refine x_iload_n (q := 19) dX9_heightAt_18 rfl rfl ?_
    refine xn_if_eq (q := 22) 59 dX9_heightAt_19 (by decide) rfl (by omega) (fun hc19 => ?_) (fun hc19 => absurd hc19 (by decide))
    refine x_aload_n (q := 60) dX9_heightAt_59 rfl rfl ?_
    refine m_get (q := 63) hM 7 fwX9_23 (by decide) dX9_heightAt_60 rfl rfl ?_
    refine x_iload_n (q := 64) dX9_heightAt_63 rfl rfl ?_
    refine m_zald (q := 65) hM (n := 4) (by decide) dX9_heightAt_64 rfl (by omega) ?_
    rw [(onlyTC.rfl').2.1, hHn, hB]
    refine x_if_eq (q := 68) 137 dX9_heightAt_65 (by decide) rfl (fun hc65 => absurd hc65 (by decide)) (fun hc65 => ?_)
    refine x_iload_n (q := 69) dX9_heightAt_68 rfl rfl ?_
    refine xn_if_eq (q := 72) 98 dX9_heightAt_69 (by decide) rfl (by omega) (fun hc69 => ?_) (fun hc69 => absurd hc69 (by decide))
    refine x_aload_n (q := 99) dX9_heightAt_98 rfl rfl ?_
    refine x_iload_n (q := 100) dX9_heightAt_99 rfl rfl ?_
    refine xn_iconst (q := 101) 1 dX9_heightAt_100 rfl (by decide) ?_
    refine xn_isub (q := 102) dX9_heightAt_101 rfl (by omega) ?_
    refine m_call (q := 105) (As := [_]) hM imX9_rightMove ivX9_rightMove ilX9_rightMove mwX9_166 xciX9 dX9_heightAt_102 rfl rfl rfl (Nat.le_of_ble_eq_true rfl) ?_
    refine (c_rightMove G l o as M0 N S d σ c (r) (node - 1) _ ((onlyTC.rfl').cf hc) hr (by omega) (by omega) hT).mono (fun x σc1 hp => ?_)
    obtain ⟨rfl, qc1, tc1⟩ := hp
    intro M hM
    have oc1 : onlyTC σ σc1 := (onlyTC.rfl').trans qc1.c
    have hrc1 : σc1.1 21 = nI (r) := by rw [qc1.1]; exact hr
    show xX G l _ (d + 3) _ _ _ [] M N S
    refine x_aload_n (q := 106) dX9_heightAt_105 rfl rfl ?_
    refine x_aload_n (q := 107) dX9_heightAt_106 rfl rfl ?_
    refine m_call (q := 110) (As := []) hM imX9_settling ivX9_settling ilX9_settling mwX9_172 xciX9 dX9_heightAt_107 rfl rfl rfl (Nat.le_of_ble_eq_true rfl) ?_
    refine (c_settling G l o as M0 N S (d + 2) σc1 c.m (by rw [(oc1).1 3 (by decide)]; exact hm)).mono (fun x σ9 hp => ?_)
    obtain ⟨rfl, e9⟩ := hp
    intro M hM
    rw [e9] at hM
    clear e9 σ9
    show xX G l _ (d + 3) _ _ _ [.int (nI (9 * c.m)), .ref o] M N S
    refine xn_ldc2 (q := 113) 384 dX9_heightAt_110 rfl cwX9_147 ?_
    refine x_aload_n (q := 114) dX9_heightAt_113 rfl rfl ?_
    refine m_get (q := 117) hM 5 fwX9_16 (by decide) dX9_heightAt_114 rfl rfl ?_
    refine x_iload_n (q := 118) dX9_heightAt_117 rfl rfl ?_
    refine xn_iconst (q := 119) 1 dX9_heightAt_118 rfl (by decide) ?_
    refine xn_isub (q := 120) dX9_heightAt_119 rfl (by omega) ?_
    refine m_iald (q := 121) hM (n := 3) (by decide) dX9_heightAt_120 rfl (by omega) ?_
    rw [(oc1).2.1, hE1]
    refine xn_i2l (q := 122) dX9_heightAt_121 rfl (by omega) ?_
    refine xn_lmul (q := 123) dX9_heightAt_122 rfl ?_
    refine x_aload_n (q := 124) dX9_heightAt_123 rfl rfl ?_
    refine m_get (q := 127) hM 9 fwX9_29 (by decide) dX9_heightAt_124 rfl rfl ?_
    refine x_iload_n (q := 128) dX9_heightAt_127 rfl rfl ?_
    refine m_iald (q := 129) hM (n := 4) (by decide) dX9_heightAt_128 rfl (by omega) ?_
    rw [(oc1).2.1, hSn]
    refine xi_i2l (q := 130) dX9_heightAt_129 rfl rfl (by omega) (by omega) ?_
    refine xi_lmul (q := 131) dX9_heightAt_130 rfl (lN_i' _) rfl ?_
    refine m_call (q := 134) (As := [_, _]) hM imX9_term ivX9_term ilX9_term mwX9_149 xciX9 dX9_heightAt_131 rfl rfl rfl (Nat.le_of_ble_eq_true rfl) ?_
    refine (c_term G l o as M0 N S (d + 2) σc1 (r) (9 * c.m) _ _ (384 * c.E (node - 1) * c.Se node) (by first | rfl | (simp only [lN_i', ← Int64.ofInt_mul, Int.natCast_mul]; rfl)) hrc1 (by omega) tc1).mono (fun x σc2 hp => ?_)
    obtain ⟨rfl, qc2, tc2⟩ := hp
    intro M hM
    have oc2 : onlyTC σ σc2 := (oc1).trans qc2.c
    have hrc2 : σc2.1 21 = nI (r) := by rw [qc2.1]; exact hrc1
    show xX G l _ (d + 3) _ _ _ [] M N S
    refine x_goto 204 dX9_heightAt_134 (by decide) ?_
    refine x_aload_n (q := 205) dX9_heightAt_204 rfl rfl ?_
    refine x_dup (q := 206) dX9_heightAt_205 rfl rfl ?_
    refine m_get (q := 209) hM 21 fwX9_139 (by decide) dX9_heightAt_206 rfl rfl ?_
    rw [hrc2]
    refine xn_iconst (q := 210) 1 dX9_heightAt_209 rfl (by decide) ?_
    refine xn_iadd (q := 211) dX9_heightAt_210 rfl ?_
    refine m_putG (q := 214) hM 21 fwX9_139 (by decide) rfl rfl rfl dX9_heightAt_211 rfl rfl rfl (fun M σ211 a211 e211 b211 hM => ?_)
    have o211 : onlyTC σ σ211 := (oc2).trans (onlyTC.inc a211 b211)
    have t211 := (tc2).same b211
    refine x_vret rfl dX9_heightAt_214 (m_ret hM ⟨rfl, o211, ?_, ?_⟩)
    · simp only [heightP, h0, hR, hB, and_self, and_true, true_and, and_false, false_and, if_true, if_false, reduceIte, Bool.false_eq_true]; exact t211
    · simp only [heightP, h0, hR, hB, and_self, and_true, true_and, and_false, false_and, if_true, if_false, reduceIte, Bool.false_eq_true]; exact e211
  · refine x_iload_n (q := 1) dX9_heightAt_0 rfl rfl ?_
    refine x_aload_n (q := 2) dX9_heightAt_1 rfl rfl ?_
    refine m_get (q := 5) hM 3 fwX9_93 (by decide) dX9_heightAt_2 rfl rfl ?_
    rw [(onlyTC.rfl').1 3 (by decide), hm]
    refine xn_icmp_ge (q := 8) 12 dX9_heightAt_5 (by decide) rfl (by omega) (by omega) (fun hc5 => absurd hc5 (by omega)) (fun hc5 => ?_)
    refine xn_iconst (q := 9) 1 dX9_heightAt_8 rfl (by decide) ?_
    refine x_goto 13 dX9_heightAt_9 (by decide) ?_
    refine x_istore_n (q := 14) (ls' := [(0, _), (1, _), (2, _)]) [1, 2, 0] dX9_heightAt_13 rfl (by decide) rfl ?_
    refine x_iload_n (q := 15) dX9_heightAt_14 rfl rfl ?_
    refine xn_if_le (q := 18) 59 dX9_heightAt_15 (by decide) rfl (by omega) (fun hc15 => ?_) (fun hc15 => absurd hc15 (by omega))
    refine x_aload_n (q := 60) dX9_heightAt_59 rfl rfl ?_
    refine m_get (q := 63) hM 7 fwX9_23 (by decide) dX9_heightAt_60 rfl rfl ?_
    refine x_iload_n (q := 64) dX9_heightAt_63 rfl rfl ?_
    refine m_zald (q := 65) hM (n := 4) (by decide) dX9_heightAt_64 rfl (by omega) ?_
    rw [(onlyTC.rfl').2.1, hHn, hB]
    refine x_if_eq (q := 68) 137 dX9_heightAt_65 (by decide) rfl (fun hc65 => ?_) (fun hc65 => absurd rfl hc65)
    refine x_iload_n (q := 138) dX9_heightAt_137 rfl rfl ?_
    refine xn_if_eq (q := 141) 164 dX9_heightAt_138 (by decide) rfl (by omega) (fun hc138 => absurd hc138 (by decide)) (fun hc138 => ?_)
    refine x_aload_n (q := 142) dX9_heightAt_141 rfl rfl ?_
    refine xn_iconst (q := 143) 4 dX9_heightAt_142 rfl (by decide) ?_
    refine x_iload_n (q := 144) dX9_heightAt_143 rfl rfl ?_
    refine xn_imul (q := 145) dX9_heightAt_144 rfl ?_
    refine xn_iconst (q := 146) 3 dX9_heightAt_145 rfl (by decide) ?_
    refine xn_iadd (q := 147) dX9_heightAt_146 rfl ?_
    refine xn_lconst (q := 148) 1 dX9_heightAt_147 rfl (by decide) ?_
    refine m_call (q := 151) (As := [_, _]) hM imX9_term ivX9_term ilX9_term mwX9_149 xciX9 dX9_heightAt_148 rfl rfl rfl (Nat.le_of_ble_eq_true rfl) ?_
    refine (c_term G l o as M0 N S (d + 2) σ (r) (4 * node + 3) _ _ (1) (by first | rfl | (simp only [lN_i', ← Int64.ofInt_mul, Int.natCast_mul]; rfl)) hr (by omega) hT).mono (fun x σc1 hp => ?_)
    obtain ⟨rfl, qc1, tc1⟩ := hp
    intro M hM
    have oc1 : onlyTC σ σc1 := (onlyTC.rfl').trans qc1.c
    have hrc1 : σc1.1 21 = nI (r) := by rw [qc1.1]; exact hr
    show xX G l _ (d + 3) _ _ _ [] M N S
    refine x_aload_n (q := 152) dX9_heightAt_151 rfl rfl ?_
    refine x_aload_n (q := 153) dX9_heightAt_152 rfl rfl ?_
    refine x_iload_n (q := 154) dX9_heightAt_153 rfl rfl ?_
    refine xn_iconst (q := 155) 0 dX9_heightAt_154 rfl (by decide) ?_
    refine m_call (q := 158) (As := [_, _]) hM imX9_column ivX9_column ilX9_column mwX9_144 xciX9 dX9_heightAt_155 rfl rfl rfl (Nat.le_of_ble_eq_true rfl) ?_
    refine (c_column G l o as M0 N S (d + 2) σc1 c.m (node) (0) (by rw [(oc1).1 3 (by decide)]; exact hm)).mono (fun x σ9 hp => ?_)
    obtain ⟨rfl, e9⟩ := hp
    intro M hM
    rw [e9] at hM
    clear e9 σ9
    show xX G l _ (d + 3) _ _ _ [.int (nI (4 * c.m + 5 * (node) + (0))), .ref o] M N S
    refine x_ldc2 (q := 161) (-1) dX9_heightAt_158 rfl cwX9_176 ?_
    refine x_topl (y := iL (-1)) (by decide) ?_
    refine m_call (q := 164) (As := [_, _]) hM imX9_term ivX9_term ilX9_term mwX9_149 xciX9 dX9_heightAt_161 rfl rfl rfl (Nat.le_of_ble_eq_true rfl) ?_
    refine (c_term G l o as M0 N S (d + 2) σc1 (r) (4 * c.m + 5 * node + 0) _ _ (-1) (by first | rfl | (simp only [lN_i', ← Int64.ofInt_mul, Int.natCast_mul]; rfl)) hrc1 (by omega) tc1).mono (fun x σc2 hp => ?_)
    obtain ⟨rfl, qc2, tc2⟩ := hp
    intro M hM
    have oc2 : onlyTC σ σc2 := (oc1).trans qc2.c
    have hrc2 : σc2.1 21 = nI (r) := by rw [qc2.1]; exact hrc1
    show xX G l _ (d + 3) _ _ _ [] M N S
    refine x_iload_n (q := 165) dX9_heightAt_164 rfl rfl ?_
    refine xn_if_le (q := 168) 204 dX9_heightAt_165 (by decide) rfl (by omega) (fun hc165 => ?_) (fun hc165 => absurd hc165 (by omega))
    refine x_aload_n (q := 205) dX9_heightAt_204 rfl rfl ?_
    refine x_dup (q := 206) dX9_heightAt_205 rfl rfl ?_
    refine m_get (q := 209) hM 21 fwX9_139 (by decide) dX9_heightAt_206 rfl rfl ?_
    rw [hrc2]
    refine xn_iconst (q := 210) 1 dX9_heightAt_209 rfl (by decide) ?_
    refine xn_iadd (q := 211) dX9_heightAt_210 rfl ?_
    refine m_putG (q := 214) hM 21 fwX9_139 (by decide) rfl rfl rfl dX9_heightAt_211 rfl rfl rfl (fun M σ211 a211 e211 b211 hM => ?_)
    have o211 : onlyTC σ σ211 := (oc2).trans (onlyTC.inc a211 b211)
    have t211 := (tc2).same b211
    refine x_vret rfl dX9_heightAt_214 (m_ret hM ⟨rfl, o211, ?_, ?_⟩)
    · simp only [heightP, h0, hR, hB, and_self, and_true, true_and, and_false, false_and, if_true, if_false, reduceIte, Bool.false_eq_true]; exact t211
    · simp only [heightP, h0, hR, hB, and_self, and_true, true_and, and_false, false_and, if_true, if_false, reduceIte, Bool.false_eq_true]; exact e211
  · refine x_iload_n (q := 1) dX9_heightAt_0 rfl rfl ?_
    refine x_aload_n (q := 2) dX9_heightAt_1 rfl rfl ?_
    refine m_get (q := 5) hM 3 fwX9_93 (by decide) dX9_heightAt_2 rfl rfl ?_
    rw [(onlyTC.rfl').1 3 (by decide), hm]
    refine xn_icmp_ge (q := 8) 12 dX9_heightAt_5 (by decide) rfl (by omega) (by omega) (fun hc5 => absurd hc5 (by omega)) (fun hc5 => ?_)
    refine xn_iconst (q := 9) 1 dX9_heightAt_8 rfl (by decide) ?_
    refine x_goto 13 dX9_heightAt_9 (by decide) ?_
    refine x_istore_n (q := 14) (ls' := [(0, _), (1, _), (2, _)]) [1, 2, 0] dX9_heightAt_13 rfl (by decide) rfl ?_
    refine x_iload_n (q := 15) dX9_heightAt_14 rfl rfl ?_
    refine xn_if_le (q := 18) 59 dX9_heightAt_15 (by decide) rfl (by omega) (fun hc15 => ?_) (fun hc15 => absurd hc15 (by omega))
    refine x_aload_n (q := 60) dX9_heightAt_59 rfl rfl ?_
    refine m_get (q := 63) hM 7 fwX9_23 (by decide) dX9_heightAt_60 rfl rfl ?_
    refine x_iload_n (q := 64) dX9_heightAt_63 rfl rfl ?_
    refine m_zald (q := 65) hM (n := 4) (by decide) dX9_heightAt_64 rfl (by omega) ?_
    rw [(onlyTC.rfl').2.1, hHn, hB]
    refine x_if_eq (q := 68) 137 dX9_heightAt_65 (by decide) rfl (fun hc65 => absurd hc65 (by decide)) (fun hc65 => ?_)
    refine x_iload_n (q := 69) dX9_heightAt_68 rfl rfl ?_
    refine xn_if_eq (q := 72) 98 dX9_heightAt_69 (by decide) rfl (by omega) (fun hc69 => absurd hc69 (by decide)) (fun hc69 => ?_)
    refine x_aload_n (q := 73) dX9_heightAt_72 rfl rfl ?_
    refine xn_iconst (q := 74) 4 dX9_heightAt_73 rfl (by decide) ?_
    refine x_iload_n (q := 75) dX9_heightAt_74 rfl rfl ?_
    refine xn_imul (q := 76) dX9_heightAt_75 rfl ?_
    refine xn_lconst (q := 77) 1 dX9_heightAt_76 rfl (by decide) ?_
    refine m_call (q := 80) (As := [_, _]) hM imX9_term ivX9_term ilX9_term mwX9_149 xciX9 dX9_heightAt_77 rfl rfl rfl (Nat.le_of_ble_eq_true rfl) ?_
    refine (c_term G l o as M0 N S (d + 2) σ (r) (4 * node) _ _ (1) (by first | rfl | (simp only [lN_i', ← Int64.ofInt_mul, Int.natCast_mul]; rfl)) hr (by omega) hT).mono (fun x σc1 hp => ?_)
    obtain ⟨rfl, qc1, tc1⟩ := hp
    intro M hM
    have oc1 : onlyTC σ σc1 := (onlyTC.rfl').trans qc1.c
    have hrc1 : σc1.1 21 = nI (r) := by rw [qc1.1]; exact hr
    show xX G l _ (d + 3) _ _ _ [] M N S
    refine x_aload_n (q := 81) dX9_heightAt_80 rfl rfl ?_
    refine x_aload_n (q := 82) dX9_heightAt_81 rfl rfl ?_
    refine m_call (q := 85) (As := []) hM imX9_settling ivX9_settling ilX9_settling mwX9_172 xciX9 dX9_heightAt_82 rfl rfl rfl (Nat.le_of_ble_eq_true rfl) ?_
    refine (c_settling G l o as M0 N S (d + 2) σc1 c.m (by rw [(oc1).1 3 (by decide)]; exact hm)).mono (fun x σ9 hp => ?_)
    obtain ⟨rfl, e9⟩ := hp
    intro M hM
    rw [e9] at hM
    clear e9 σ9
    show xX G l _ (d + 3) _ _ _ [.int (nI (9 * c.m)), .ref o] M N S
    refine x_aload_n (q := 86) dX9_heightAt_85 rfl rfl ?_
    refine m_get (q := 89) hM 9 fwX9_29 (by decide) dX9_heightAt_86 rfl rfl ?_
    refine x_iload_n (q := 90) dX9_heightAt_89 rfl rfl ?_
    refine m_iald (q := 91) hM (n := 4) (by decide) dX9_heightAt_90 rfl (by omega) ?_
    rw [(oc1).2.1, hSn]
    refine xi_i2l (q := 92) dX9_heightAt_91 rfl rfl (by omega) (by omega) ?_
    refine m_call (q := 95) (As := [_, _]) hM imX9_term ivX9_term ilX9_term mwX9_149 xciX9 dX9_heightAt_92 rfl rfl rfl (Nat.le_of_ble_eq_true rfl) ?_
    refine (c_term G l o as M0 N S (d + 2) σc1 (r) (9 * c.m) _ _ (c.Se node) (by first | rfl | (simp only [lN_i', ← Int64.ofInt_mul, Int.natCast_mul]; rfl)) hrc1 (by omega) tc1).mono (fun x σc2 hp => ?_)
    obtain ⟨rfl, qc2, tc2⟩ := hp
    intro M hM
    have oc2 : onlyTC σ σc2 := (oc1).trans qc2.c
    have hrc2 : σc2.1 21 = nI (r) := by rw [qc2.1]; exact hrc1
    show xX G l _ (d + 3) _ _ _ [] M N S
    refine x_goto 204 dX9_heightAt_95 (by decide) ?_
    refine x_aload_n (q := 205) dX9_heightAt_204 rfl rfl ?_
    refine x_dup (q := 206) dX9_heightAt_205 rfl rfl ?_
    refine m_get (q := 209) hM 21 fwX9_139 (by decide) dX9_heightAt_206 rfl rfl ?_
    rw [hrc2]
    refine xn_iconst (q := 210) 1 dX9_heightAt_209 rfl (by decide) ?_
    refine xn_iadd (q := 211) dX9_heightAt_210 rfl ?_
    refine m_putG (q := 214) hM 21 fwX9_139 (by decide) rfl rfl rfl dX9_heightAt_211 rfl rfl rfl (fun M σ211 a211 e211 b211 hM => ?_)
    have o211 : onlyTC σ σ211 := (oc2).trans (onlyTC.inc a211 b211)
    have t211 := (tc2).same b211
    refine x_vret rfl dX9_heightAt_214 (m_ret hM ⟨rfl, o211, ?_, ?_⟩)
    · simp only [heightP, h0, hR, hB, and_self, and_true, true_and, and_false, false_and, if_true, if_false, reduceIte, Bool.false_eq_true]; exact t211
    · simp only [heightP, h0, hR, hB, and_self, and_true, true_and, and_false, false_and, if_true, if_false, reduceIte, Bool.false_eq_true]; exact e211
  · exact absurd hR (by omega)
  · exact absurd hR (by omega)
set_option maxRecDepth 100000 in
set_option maxHeartbeats 4000000 in
theorem c_turningAt (G : xG) (l : Launch) (o : Nat) (as : Nat → Nat) (M0 : xM) (N S : Nat) (d : Nat) (σ : mS) (c : mCf) (r node : Nat) (T : Nat → Int) (hc : Cf σ c) (hr : σ.1 21 = nI r) (hr2 : r ≤ 11) (hr3 : 0 < node → node < c.m → r ≤ 10) (hnode : node ≤ c.m) (hT : Td σ T) : mC G l o as M0 N S YX9_turningAt (d + 3) [.int (nI node)] σ (fun x σ' => x = none ∧ onlyTC σ σ' ∧ Td σ' (turnP c T r node).1 ∧ σ'.1 21 = nI (turnP c T r node).2) := by
  obtain ⟨ok, hm, hL, hE, hH, hHi, hTu, hSe⟩ := id hc
  obtain ⟨m1, m3, okL, okE, okS⟩ := ok
  have hTn := hTu node (by omega)
  have hHl : σ.2.1 6 (2 * node - 1) = bI (c.Hg (2 * node - 1)) := hH _ (by omega)
  have hHr : node < c.m → σ.2.1 6 (2 * node) = bI (c.Hg (2 * node)) := fun h => hH _ (by omega)
  have hE1 := hE (node - 1) (by omega)
  have okE1 := okE (node - 1) (by omega)
  refine mC.of (ls := [(0, .ref o), (1, .int (nI node))]) (by decide) (Nat.le_of_ble_eq_true rfl) rfl fun M hM => ?_
  by_cases h0 : 0 < node <;> by_cases hR : node < c.m <;> cases hl : c.Hg (2 * node - 1) <;> cases hg : c.Hg (2 * node) <;> cases hU : c.Tu node
  · refine x_iload_n (q := 1) dX9_turningAt_0 rfl rfl ?_
    refine xn_if_le (q := 4) 21 dX9_turningAt_1 (by decide) rfl (by omega) (fun hc1 => absurd hc1 (by omega)) (fun hc1 => ?_)
    refine x_aload_n (q := 5) dX9_turningAt_4 rfl rfl ?_
    refine m_get (q := 8) hM 6 fwX9_19 (by decide) dX9_turningAt_5 rfl rfl ?_
    refine xn_iconst (q := 9) 2 dX9_turningAt_8 rfl (by decide) ?_
    refine x_iload_n (q := 10) dX9_turningAt_9 rfl rfl ?_
    refine xn_imul (q := 11) dX9_turningAt_10 rfl ?_
    refine xn_iconst (q := 12) 1 dX9_turningAt_11 rfl (by decide) ?_
    refine xn_isub (q := 13) dX9_turningAt_12 rfl (by omega) ?_
    refine m_zald (q := 14) hM (n := 6) (by decide) dX9_turningAt_13 rfl (by omega) ?_
    rw [(onlyTC.rfl').2.1, hHl, hl]
    refine x_if_ne (q := 17) 21 dX9_turningAt_14 (by decide) rfl (fun hc14 => absurd hc14 (by decide)) (fun hc14 => ?_)
    refine xn_iconst (q := 18) 1 dX9_turningAt_17 rfl (by decide) ?_
    refine x_goto 22 dX9_turningAt_18 (by decide) ?_
    refine x_istore_n (q := 23) (ls' := [(0, _), (1, _), (2, _)]) [1, 2, 0] dX9_turningAt_22 rfl (by decide) rfl ?_
    refine x_iload_n (q := 24) dX9_turningAt_23 rfl rfl ?_
    refine x_aload_n (q := 25) dX9_turningAt_24 rfl rfl ?_
    refine m_get (q := 28) hM 3 fwX9_93 (by decide) dX9_turningAt_25 rfl rfl ?_
    rw [(onlyTC.rfl').1 3 (by decide), hm]
    refine xn_icmp_ge (q := 31) 46 dX9_turningAt_28 (by decide) rfl (by omega) (by omega) (fun hc28 => absurd hc28 (by omega)) (fun hc28 => ?_)
    refine x_aload_n (q := 32) dX9_turningAt_31 rfl rfl ?_
    refine m_get (q := 35) hM 6 fwX9_19 (by decide) dX9_turningAt_32 rfl rfl ?_
    refine xn_iconst (q := 36) 2 dX9_turningAt_35 rfl (by decide) ?_
    refine x_iload_n (q := 37) dX9_turningAt_36 rfl rfl ?_
    refine xn_imul (q := 38) dX9_turningAt_37 rfl ?_
    refine m_zald (q := 39) hM (n := 6) (by decide) dX9_turningAt_38 rfl (by omega) ?_
    rw [(onlyTC.rfl').2.1, hHr hR, hg]
    refine x_if_ne (q := 42) 46 dX9_turningAt_39 (by decide) rfl (fun hc39 => absurd hc39 (by decide)) (fun hc39 => ?_)
    refine xn_iconst (q := 43) 1 dX9_turningAt_42 rfl (by decide) ?_
    refine x_goto 47 dX9_turningAt_43 (by decide) ?_
    refine x_istore_n (q := 48) (ls' := [(0, _), (1, _), (2, _), (3, _)]) [1, 2, 3, 0] dX9_turningAt_47 rfl (by decide) rfl ?_
    refine x_iload_n (q := 49) dX9_turningAt_48 rfl rfl ?_
    refine xn_if_le (q := 52) 83 dX9_turningAt_49 (by decide) rfl (by omega) (fun hc49 => absurd hc49 (by omega)) (fun hc49 => ?_)
    refine x_aload_n (q := 53) dX9_turningAt_52 rfl rfl ?_
    refine m_get (q := 56) hM 6 fwX9_19 (by decide) dX9_turningAt_53 rfl rfl ?_
    refine xn_iconst (q := 57) 2 dX9_turningAt_56 rfl (by decide) ?_
    refine x_iload_n (q := 58) dX9_turningAt_57 rfl rfl ?_
    refine xn_imul (q := 59) dX9_turningAt_58 rfl ?_
    refine xn_iconst (q := 60) 1 dX9_turningAt_59 rfl (by decide) ?_
    refine xn_isub (q := 61) dX9_turningAt_60 rfl (by omega) ?_
    refine m_zald (q := 62) hM (n := 6) (by decide) dX9_turningAt_61 rfl (by omega) ?_
    rw [(onlyTC.rfl').2.1, hHl, hl]
    refine x_if_eq (q := 65) 83 dX9_turningAt_62 (by decide) rfl (fun hc62 => ?_) (fun hc62 => absurd (by decide) hc62)
    refine x_iload_n (q := 84) dX9_turningAt_83 rfl rfl ?_
    refine x_aload_n (q := 85) dX9_turningAt_84 rfl rfl ?_
    refine m_get (q := 88) hM 3 fwX9_93 (by decide) dX9_turningAt_85 rfl rfl ?_
    rw [(onlyTC.rfl').1 3 (by decide), hm]
    refine xn_icmp_ge (q := 91) 122 dX9_turningAt_88 (by decide) rfl (by omega) (by omega) (fun hc88 => absurd hc88 (by omega)) (fun hc88 => ?_)
    refine x_aload_n (q := 92) dX9_turningAt_91 rfl rfl ?_
    refine m_get (q := 95) hM 6 fwX9_19 (by decide) dX9_turningAt_92 rfl rfl ?_
    refine xn_iconst (q := 96) 2 dX9_turningAt_95 rfl (by decide) ?_
    refine x_iload_n (q := 97) dX9_turningAt_96 rfl rfl ?_
    refine xn_imul (q := 98) dX9_turningAt_97 rfl ?_
    refine m_zald (q := 99) hM (n := 6) (by decide) dX9_turningAt_98 rfl (by omega) ?_
    rw [(onlyTC.rfl').2.1, hHr hR, hg]
    refine x_if_eq (q := 102) 122 dX9_turningAt_99 (by decide) rfl (fun hc99 => ?_) (fun hc99 => absurd (by decide) hc99)
    refine x_iload_n (q := 123) dX9_turningAt_122 rfl rfl ?_
    refine xn_if_ne (q := 126) 131 dX9_turningAt_123 (by decide) rfl (by omega) (fun hc123 => ?_) (fun hc123 => absurd hc123 (by decide))
    refine x_aload_n (q := 132) dX9_turningAt_131 rfl rfl ?_
    refine m_get (q := 135) hM 8 fwX9_26 (by decide) dX9_turningAt_132 rfl rfl ?_
    refine x_iload_n (q := 136) dX9_turningAt_135 rfl rfl ?_
    refine m_zald (q := 137) hM (n := 4) (by decide) dX9_turningAt_136 rfl (by omega) ?_
    rw [(onlyTC.rfl').2.1, hTn, hU]
    refine x_if_eq (q := 140) 186 dX9_turningAt_137 (by decide) rfl (fun hc137 => ?_) (fun hc137 => absurd (by decide) hc137)
    refine x_iload_n (q := 187) dX9_turningAt_186 rfl rfl ?_
    refine xn_if_eq (q := 190) 233 dX9_turningAt_187 (by decide) rfl (by omega) (fun hc187 => absurd hc187 (by decide)) (fun hc187 => ?_)
    refine x_iload_n (q := 191) dX9_turningAt_190 rfl rfl ?_
    refine xn_if_eq (q := 194) 233 dX9_turningAt_191 (by decide) rfl (by omega) (fun hc191 => absurd hc191 (by decide)) (fun hc191 => ?_)
    refine x_aload_n (q := 195) dX9_turningAt_194 rfl rfl ?_
    refine x_iload_n (q := 196) dX9_turningAt_195 rfl rfl ?_
    refine xn_iconst (q := 197) 1 dX9_turningAt_196 rfl (by decide) ?_
    refine xn_isub (q := 198) dX9_turningAt_197 rfl (by omega) ?_
    refine m_call (q := 201) (As := [_]) hM imX9_rightTurn ivX9_rightTurn ilX9_rightTurn mwX9_181 xciX9 dX9_turningAt_198 rfl rfl rfl (Nat.le_of_ble_eq_true rfl) ?_
    refine (c_rightTurn G l o as M0 N S d σ c (r) (node - 1) _ ((onlyTC.rfl').cf hc) hr (by omega) (by omega) hT).mono (fun x σc1 hp => ?_)
    obtain ⟨rfl, qc1, tc1⟩ := hp
    intro M hM
    have oc1 : onlyTC σ σc1 := (onlyTC.rfl').trans qc1.c
    have hrc1 : σc1.1 21 = nI (r) := by rw [qc1.1]; exact hr
    show xX G l _ (d + 3) _ _ _ [] M N S
    refine x_aload_n (q := 202) dX9_turningAt_201 rfl rfl ?_
    refine xn_iconst (q := 203) 4 dX9_turningAt_202 rfl (by decide) ?_
    refine x_iload_n (q := 204) dX9_turningAt_203 rfl rfl ?_
    refine xn_imul (q := 205) dX9_turningAt_204 rfl ?_
    refine xn_iconst (q := 206) 1 dX9_turningAt_205 rfl (by decide) ?_
    refine xn_iadd (q := 207) dX9_turningAt_206 rfl ?_
    refine x_ldc2 (q := 210) (-32) dX9_turningAt_207 rfl cwX9_162 ?_
    refine x_topl (y := iL (-32)) (by decide) ?_
    refine x_aload_n (q := 211) dX9_turningAt_210 rfl rfl ?_
    refine m_get (q := 214) hM 5 fwX9_16 (by decide) dX9_turningAt_211 rfl rfl ?_
    refine x_iload_n (q := 215) dX9_turningAt_214 rfl rfl ?_
    refine xn_iconst (q := 216) 1 dX9_turningAt_215 rfl (by decide) ?_
    refine xn_isub (q := 217) dX9_turningAt_216 rfl (by omega) ?_
    refine m_iald (q := 218) hM (n := 3) (by decide) dX9_turningAt_217 rfl (by omega) ?_
    rw [(oc1).2.1, hE1]
    refine xn_i2l (q := 219) dX9_turningAt_218 rfl (by omega) ?_
    refine xi_lmul (q := 220) dX9_turningAt_219 rfl rfl (lN_i' _) ?_
    refine m_call (q := 223) (As := [_, _]) hM imX9_term ivX9_term ilX9_term mwX9_149 xciX9 dX9_turningAt_220 rfl rfl rfl (Nat.le_of_ble_eq_true rfl) ?_
    refine (c_term G l o as M0 N S (d + 2) σc1 (r) (4 * node + 1) _ _ (-32 * c.E (node - 1)) (by first | rfl | (simp only [lN_i', ← Int64.ofInt_mul, Int.natCast_mul]; rfl)) hrc1 (by omega) tc1).mono (fun x σc2 hp => ?_)
    obtain ⟨rfl, qc2, tc2⟩ := hp
    intro M hM
    have oc2 : onlyTC σ σc2 := (oc1).trans qc2.c
    have hrc2 : σc2.1 21 = nI (r) := by rw [qc2.1]; exact hrc1
    show xX G l _ (d + 3) _ _ _ [] M N S
    refine x_aload_n (q := 224) dX9_turningAt_223 rfl rfl ?_
    refine x_dup (q := 225) dX9_turningAt_224 rfl rfl ?_
    refine m_get (q := 228) hM 21 fwX9_139 (by decide) dX9_turningAt_225 rfl rfl ?_
    rw [hrc2]
    refine xn_iconst (q := 229) 1 dX9_turningAt_228 rfl (by decide) ?_
    refine xn_iadd (q := 230) dX9_turningAt_229 rfl ?_
    refine m_putG (q := 233) hM 21 fwX9_139 (by decide) rfl rfl rfl dX9_turningAt_230 rfl rfl rfl (fun M σ230 a230 e230 b230 hM => ?_)
    have o230 : onlyTC σ σ230 := (oc2).trans (onlyTC.inc a230 b230)
    have t230 := (tc2).same b230
    refine x_iload_n (q := 234) dX9_turningAt_233 rfl rfl ?_
    refine xn_if_eq (q := 237) 245 dX9_turningAt_234 (by decide) rfl (by omega) (fun hc234 => absurd hc234 (by decide)) (fun hc234 => ?_)
    refine x_aload_n (q := 238) dX9_turningAt_237 rfl rfl ?_
    refine x_iload_n (q := 239) dX9_turningAt_238 rfl rfl ?_
    refine xn_iconst (q := 240) 1 dX9_turningAt_239 rfl (by decide) ?_
    refine xn_isub (q := 241) dX9_turningAt_240 rfl (by omega) ?_
    refine xn_lconst (q := 242) 1 dX9_turningAt_241 rfl (by decide) ?_
    refine m_call (q := 245) (As := [_, _]) hM imX9_rightMoment ivX9_rightMoment ilX9_rightMoment mwX9_178 xciX9 dX9_turningAt_242 rfl rfl rfl (Nat.le_of_ble_eq_true rfl) ?_
    refine (c_rightMoment G l o as M0 N S d σ230 c (r + 1) (node - 1) _ _ 1 rfl ((o230).cf hc) e230 (by omega) (by omega) t230).mono (fun x σc3 hp => ?_)
    obtain ⟨rfl, qc3, tc3⟩ := hp
    intro M hM
    have oc3 : onlyTC σ σc3 := (o230).trans qc3.c
    have hrc3 : σc3.1 21 = nI (r + 1) := by rw [qc3.1]; exact e230
    show xX G l _ (d + 3) _ _ _ [] M N S
    refine x_iload_n (q := 246) dX9_turningAt_245 rfl rfl ?_
    refine xn_if_eq (q := 249) 261 dX9_turningAt_246 (by decide) rfl (by omega) (fun hc246 => absurd hc246 (by decide)) (fun hc246 => ?_)
    refine x_aload_n (q := 250) dX9_turningAt_249 rfl rfl ?_
    refine xn_iconst (q := 251) 4 dX9_turningAt_250 rfl (by decide) ?_
    refine x_iload_n (q := 252) dX9_turningAt_251 rfl rfl ?_
    refine xn_imul (q := 253) dX9_turningAt_252 rfl ?_
    refine xn_iconst (q := 254) 2 dX9_turningAt_253 rfl (by decide) ?_
    refine xn_iadd (q := 255) dX9_turningAt_254 rfl ?_
    refine x_ldc2 (q := 258) (-4) dX9_turningAt_255 rfl cwX9_184 ?_
    refine x_topl (y := iL (-4)) (by decide) ?_
    refine m_call (q := 261) (As := [_, _]) hM imX9_term ivX9_term ilX9_term mwX9_149 xciX9 dX9_turningAt_258 rfl rfl rfl (Nat.le_of_ble_eq_true rfl) ?_
    refine (c_term G l o as M0 N S (d + 2) σc3 (r + 1) (4 * node + 2) _ _ (-4) (by first | rfl | (simp only [lN_i', ← Int64.ofInt_mul, Int.natCast_mul]; rfl)) hrc3 (by omega) tc3).mono (fun x σc4 hp => ?_)
    obtain ⟨rfl, qc4, tc4⟩ := hp
    intro M hM
    have oc4 : onlyTC σ σc4 := (oc3).trans qc4.c
    have hrc4 : σc4.1 21 = nI (r + 1) := by rw [qc4.1]; exact hrc3
    show xX G l _ (d + 3) _ _ _ [] M N S
    refine x_aload_n (q := 262) dX9_turningAt_261 rfl rfl ?_
    refine x_dup (q := 263) dX9_turningAt_262 rfl rfl ?_
    refine m_get (q := 266) hM 21 fwX9_139 (by decide) dX9_turningAt_263 rfl rfl ?_
    rw [hrc4]
    refine xn_iconst (q := 267) 1 dX9_turningAt_266 rfl (by decide) ?_
    refine xn_iadd (q := 268) dX9_turningAt_267 rfl ?_
    refine m_putG (q := 271) hM 21 fwX9_139 (by decide) rfl rfl rfl dX9_turningAt_268 rfl rfl rfl (fun M σ268 a268 e268 b268 hM => ?_)
    have o268 : onlyTC σ σ268 := (oc4).trans (onlyTC.inc a268 b268)
    have t268 := (tc4).same b268
    refine x_vret rfl dX9_turningAt_271 (m_ret hM ⟨rfl, o268, ?_, ?_⟩)
    · simp only [turnP, h0, hR, hl, hg, hU, decide_true, decide_false, Bool.not_true, Bool.not_false, Bool.and_true, Bool.true_and, Bool.and_false, Bool.false_and, Bool.or_true, Bool.true_or, Bool.or_false, Bool.false_or, if_true, if_false, reduceIte, Bool.false_eq_true, Bool.true_eq_false]; exact t268
    · simp only [turnP, h0, hR, hl, hg, hU, decide_true, decide_false, Bool.not_true, Bool.not_false, Bool.and_true, Bool.true_and, Bool.and_false, Bool.false_and, Bool.or_true, Bool.true_or, Bool.or_false, Bool.false_or, if_true, if_false, reduceIte, Bool.false_eq_true, Bool.true_eq_false]; exact e268
  · refine x_iload_n (q := 1) dX9_turningAt_0 rfl rfl ?_
    refine xn_if_le (q := 4) 21 dX9_turningAt_1 (by decide) rfl (by omega) (fun hc1 => absurd hc1 (by omega)) (fun hc1 => ?_)
    refine x_aload_n (q := 5) dX9_turningAt_4 rfl rfl ?_
    refine m_get (q := 8) hM 6 fwX9_19 (by decide) dX9_turningAt_5 rfl rfl ?_
    refine xn_iconst (q := 9) 2 dX9_turningAt_8 rfl (by decide) ?_
    refine x_iload_n (q := 10) dX9_turningAt_9 rfl rfl ?_
    refine xn_imul (q := 11) dX9_turningAt_10 rfl ?_
    refine xn_iconst (q := 12) 1 dX9_turningAt_11 rfl (by decide) ?_
    refine xn_isub (q := 13) dX9_turningAt_12 rfl (by omega) ?_
    refine m_zald (q := 14) hM (n := 6) (by decide) dX9_turningAt_13 rfl (by omega) ?_
    rw [(onlyTC.rfl').2.1, hHl, hl]
    refine x_if_ne (q := 17) 21 dX9_turningAt_14 (by decide) rfl (fun hc14 => absurd hc14 (by decide)) (fun hc14 => ?_)
    refine xn_iconst (q := 18) 1 dX9_turningAt_17 rfl (by decide) ?_
    refine x_goto 22 dX9_turningAt_18 (by decide) ?_
    refine x_istore_n (q := 23) (ls' := [(0, _), (1, _), (2, _)]) [1, 2, 0] dX9_turningAt_22 rfl (by decide) rfl ?_
    refine x_iload_n (q := 24) dX9_turningAt_23 rfl rfl ?_
    refine x_aload_n (q := 25) dX9_turningAt_24 rfl rfl ?_
    refine m_get (q := 28) hM 3 fwX9_93 (by decide) dX9_turningAt_25 rfl rfl ?_
    rw [(onlyTC.rfl').1 3 (by decide), hm]
    refine xn_icmp_ge (q := 31) 46 dX9_turningAt_28 (by decide) rfl (by omega) (by omega) (fun hc28 => absurd hc28 (by omega)) (fun hc28 => ?_)
    refine x_aload_n (q := 32) dX9_turningAt_31 rfl rfl ?_
    refine m_get (q := 35) hM 6 fwX9_19 (by decide) dX9_turningAt_32 rfl rfl ?_
    refine xn_iconst (q := 36) 2 dX9_turningAt_35 rfl (by decide) ?_
    refine x_iload_n (q := 37) dX9_turningAt_36 rfl rfl ?_
    refine xn_imul (q := 38) dX9_turningAt_37 rfl ?_
    refine m_zald (q := 39) hM (n := 6) (by decide) dX9_turningAt_38 rfl (by omega) ?_
    rw [(onlyTC.rfl').2.1, hHr hR, hg]
    refine x_if_ne (q := 42) 46 dX9_turningAt_39 (by decide) rfl (fun hc39 => absurd hc39 (by decide)) (fun hc39 => ?_)
    refine xn_iconst (q := 43) 1 dX9_turningAt_42 rfl (by decide) ?_
    refine x_goto 47 dX9_turningAt_43 (by decide) ?_
    refine x_istore_n (q := 48) (ls' := [(0, _), (1, _), (2, _), (3, _)]) [1, 2, 3, 0] dX9_turningAt_47 rfl (by decide) rfl ?_
    refine x_iload_n (q := 49) dX9_turningAt_48 rfl rfl ?_
    refine xn_if_le (q := 52) 83 dX9_turningAt_49 (by decide) rfl (by omega) (fun hc49 => absurd hc49 (by omega)) (fun hc49 => ?_)
    refine x_aload_n (q := 53) dX9_turningAt_52 rfl rfl ?_
    refine m_get (q := 56) hM 6 fwX9_19 (by decide) dX9_turningAt_53 rfl rfl ?_
    refine xn_iconst (q := 57) 2 dX9_turningAt_56 rfl (by decide) ?_
    refine x_iload_n (q := 58) dX9_turningAt_57 rfl rfl ?_
    refine xn_imul (q := 59) dX9_turningAt_58 rfl ?_
    refine xn_iconst (q := 60) 1 dX9_turningAt_59 rfl (by decide) ?_
    refine xn_isub (q := 61) dX9_turningAt_60 rfl (by omega) ?_
    refine m_zald (q := 62) hM (n := 6) (by decide) dX9_turningAt_61 rfl (by omega) ?_
    rw [(onlyTC.rfl').2.1, hHl, hl]
    refine x_if_eq (q := 65) 83 dX9_turningAt_62 (by decide) rfl (fun hc62 => ?_) (fun hc62 => absurd (by decide) hc62)
    refine x_iload_n (q := 84) dX9_turningAt_83 rfl rfl ?_
    refine x_aload_n (q := 85) dX9_turningAt_84 rfl rfl ?_
    refine m_get (q := 88) hM 3 fwX9_93 (by decide) dX9_turningAt_85 rfl rfl ?_
    rw [(onlyTC.rfl').1 3 (by decide), hm]
    refine xn_icmp_ge (q := 91) 122 dX9_turningAt_88 (by decide) rfl (by omega) (by omega) (fun hc88 => absurd hc88 (by omega)) (fun hc88 => ?_)
    refine x_aload_n (q := 92) dX9_turningAt_91 rfl rfl ?_
    refine m_get (q := 95) hM 6 fwX9_19 (by decide) dX9_turningAt_92 rfl rfl ?_
    refine xn_iconst (q := 96) 2 dX9_turningAt_95 rfl (by decide) ?_
    refine x_iload_n (q := 97) dX9_turningAt_96 rfl rfl ?_
    refine xn_imul (q := 98) dX9_turningAt_97 rfl ?_
    refine m_zald (q := 99) hM (n := 6) (by decide) dX9_turningAt_98 rfl (by omega) ?_
    rw [(onlyTC.rfl').2.1, hHr hR, hg]
    refine x_if_eq (q := 102) 122 dX9_turningAt_99 (by decide) rfl (fun hc99 => ?_) (fun hc99 => absurd (by decide) hc99)
    refine x_iload_n (q := 123) dX9_turningAt_122 rfl rfl ?_
    refine xn_if_ne (q := 126) 131 dX9_turningAt_123 (by decide) rfl (by omega) (fun hc123 => ?_) (fun hc123 => absurd hc123 (by decide))
    refine x_aload_n (q := 132) dX9_turningAt_131 rfl rfl ?_
    refine m_get (q := 135) hM 8 fwX9_26 (by decide) dX9_turningAt_132 rfl rfl ?_
    refine x_iload_n (q := 136) dX9_turningAt_135 rfl rfl ?_
    refine m_zald (q := 137) hM (n := 4) (by decide) dX9_turningAt_136 rfl (by omega) ?_
    rw [(onlyTC.rfl').2.1, hTn, hU]
    refine x_if_eq (q := 140) 186 dX9_turningAt_137 (by decide) rfl (fun hc137 => absurd hc137 (by decide)) (fun hc137 => ?_)
    refine x_iload_n (q := 141) dX9_turningAt_140 rfl rfl ?_
    refine xn_if_eq (q := 144) 161 dX9_turningAt_141 (by decide) rfl (by omega) (fun hc141 => absurd hc141 (by decide)) (fun hc141 => ?_)
    refine x_aload_n (q := 145) dX9_turningAt_144 rfl rfl ?_
    refine x_iload_n (q := 146) dX9_turningAt_145 rfl rfl ?_
    refine xn_iconst (q := 147) 1 dX9_turningAt_146 rfl (by decide) ?_
    refine xn_isub (q := 148) dX9_turningAt_147 rfl (by omega) ?_
    refine m_call (q := 151) (As := [_]) hM imX9_rightTurn ivX9_rightTurn ilX9_rightTurn mwX9_181 xciX9 dX9_turningAt_148 rfl rfl rfl (Nat.le_of_ble_eq_true rfl) ?_
    refine (c_rightTurn G l o as M0 N S d σ c (r) (node - 1) _ ((onlyTC.rfl').cf hc) hr (by omega) (by omega) hT).mono (fun x σc1 hp => ?_)
    obtain ⟨rfl, qc1, tc1⟩ := hp
    intro M hM
    have oc1 : onlyTC σ σc1 := (onlyTC.rfl').trans qc1.c
    have hrc1 : σc1.1 21 = nI (r) := by rw [qc1.1]; exact hr
    show xX G l _ (d + 3) _ _ _ [] M N S
    refine x_aload_n (q := 152) dX9_turningAt_151 rfl rfl ?_
    refine x_dup (q := 153) dX9_turningAt_152 rfl rfl ?_
    refine m_get (q := 156) hM 21 fwX9_139 (by decide) dX9_turningAt_153 rfl rfl ?_
    rw [hrc1]
    refine xn_iconst (q := 157) 1 dX9_turningAt_156 rfl (by decide) ?_
    refine xn_iadd (q := 158) dX9_turningAt_157 rfl ?_
    refine m_putG (q := 161) hM 21 fwX9_139 (by decide) rfl rfl rfl dX9_turningAt_158 rfl rfl rfl (fun M σ158 a158 e158 b158 hM => ?_)
    have o158 : onlyTC σ σ158 := (oc1).trans (onlyTC.inc a158 b158)
    have t158 := (tc1).same b158
    refine x_iload_n (q := 162) dX9_turningAt_161 rfl rfl ?_
    refine xn_if_eq (q := 165) 185 dX9_turningAt_162 (by decide) rfl (by omega) (fun hc162 => absurd hc162 (by decide)) (fun hc162 => ?_)
    refine x_aload_n (q := 166) dX9_turningAt_165 rfl rfl ?_
    refine xn_iconst (q := 167) 4 dX9_turningAt_166 rfl (by decide) ?_
    refine x_iload_n (q := 168) dX9_turningAt_167 rfl rfl ?_
    refine xn_imul (q := 169) dX9_turningAt_168 rfl ?_
    refine xn_iconst (q := 170) 1 dX9_turningAt_169 rfl (by decide) ?_
    refine xn_iadd (q := 171) dX9_turningAt_170 rfl ?_
    refine xn_lconst (q := 172) 1 dX9_turningAt_171 rfl (by decide) ?_
    refine m_call (q := 175) (As := [_, _]) hM imX9_term ivX9_term ilX9_term mwX9_149 xciX9 dX9_turningAt_172 rfl rfl rfl (Nat.le_of_ble_eq_true rfl) ?_
    refine (c_term G l o as M0 N S (d + 2) σ158 (r + 1) (4 * node + 1) _ _ (1) (by first | rfl | (simp only [lN_i', ← Int64.ofInt_mul, Int.natCast_mul]; rfl)) e158 (by omega) t158).mono (fun x σc2 hp => ?_)
    obtain ⟨rfl, qc2, tc2⟩ := hp
    intro M hM
    have oc2 : onlyTC σ σc2 := (o158).trans qc2.c
    have hrc2 : σc2.1 21 = nI (r + 1) := by rw [qc2.1]; exact e158
    show xX G l _ (d + 3) _ _ _ [] M N S
    refine x_aload_n (q := 176) dX9_turningAt_175 rfl rfl ?_
    refine x_dup (q := 177) dX9_turningAt_176 rfl rfl ?_
    refine m_get (q := 180) hM 21 fwX9_139 (by decide) dX9_turningAt_177 rfl rfl ?_
    rw [hrc2]
    refine xn_iconst (q := 181) 1 dX9_turningAt_180 rfl (by decide) ?_
    refine xn_iadd (q := 182) dX9_turningAt_181 rfl ?_
    refine m_putG (q := 185) hM 21 fwX9_139 (by decide) rfl rfl rfl dX9_turningAt_182 rfl rfl rfl (fun M σ182 a182 e182 b182 hM => ?_)
    have o182 : onlyTC σ σ182 := (oc2).trans (onlyTC.inc a182 b182)
    have t182 := (tc2).same b182
    refine x_vret rfl dX9_turningAt_185 (m_ret hM ⟨rfl, o182, ?_, ?_⟩)
    · simp only [turnP, h0, hR, hl, hg, hU, decide_true, decide_false, Bool.not_true, Bool.not_false, Bool.and_true, Bool.true_and, Bool.and_false, Bool.false_and, Bool.or_true, Bool.true_or, Bool.or_false, Bool.false_or, if_true, if_false, reduceIte, Bool.false_eq_true, Bool.true_eq_false]; exact t182
    · simp only [turnP, h0, hR, hl, hg, hU, decide_true, decide_false, Bool.not_true, Bool.not_false, Bool.and_true, Bool.true_and, Bool.and_false, Bool.false_and, Bool.or_true, Bool.true_or, Bool.or_false, Bool.false_or, if_true, if_false, reduceIte, Bool.false_eq_true, Bool.true_eq_false]; exact e182
  · refine x_iload_n (q := 1) dX9_turningAt_0 rfl rfl ?_
    refine xn_if_le (q := 4) 21 dX9_turningAt_1 (by decide) rfl (by omega) (fun hc1 => absurd hc1 (by omega)) (fun hc1 => ?_)
    refine x_aload_n (q := 5) dX9_turningAt_4 rfl rfl ?_
    refine m_get (q := 8) hM 6 fwX9_19 (by decide) dX9_turningAt_5 rfl rfl ?_
    refine xn_iconst (q := 9) 2 dX9_turningAt_8 rfl (by decide) ?_
    refine x_iload_n (q := 10) dX9_turningAt_9 rfl rfl ?_
    refine xn_imul (q := 11) dX9_turningAt_10 rfl ?_
    refine xn_iconst (q := 12) 1 dX9_turningAt_11 rfl (by decide) ?_
    refine xn_isub (q := 13) dX9_turningAt_12 rfl (by omega) ?_
    refine m_zald (q := 14) hM (n := 6) (by decide) dX9_turningAt_13 rfl (by omega) ?_
    rw [(onlyTC.rfl').2.1, hHl, hl]
    refine x_if_ne (q := 17) 21 dX9_turningAt_14 (by decide) rfl (fun hc14 => absurd hc14 (by decide)) (fun hc14 => ?_)
    refine xn_iconst (q := 18) 1 dX9_turningAt_17 rfl (by decide) ?_
    refine x_goto 22 dX9_turningAt_18 (by decide) ?_
    refine x_istore_n (q := 23) (ls' := [(0, _), (1, _), (2, _)]) [1, 2, 0] dX9_turningAt_22 rfl (by decide) rfl ?_
    refine x_iload_n (q := 24) dX9_turningAt_23 rfl rfl ?_
    refine x_aload_n (q := 25) dX9_turningAt_24 rfl rfl ?_
    refine m_get (q := 28) hM 3 fwX9_93 (by decide) dX9_turningAt_25 rfl rfl ?_
    rw [(onlyTC.rfl').1 3 (by decide), hm]
    refine xn_icmp_ge (q := 31) 46 dX9_turningAt_28 (by decide) rfl (by omega) (by omega) (fun hc28 => absurd hc28 (by omega)) (fun hc28 => ?_)
    refine x_aload_n (q := 32) dX9_turningAt_31 rfl rfl ?_
    refine m_get (q := 35) hM 6 fwX9_19 (by decide) dX9_turningAt_32 rfl rfl ?_
    refine xn_iconst (q := 36) 2 dX9_turningAt_35 rfl (by decide) ?_
    refine x_iload_n (q := 37) dX9_turningAt_36 rfl rfl ?_
    refine xn_imul (q := 38) dX9_turningAt_37 rfl ?_
    refine m_zald (q := 39) hM (n := 6) (by decide) dX9_turningAt_38 rfl (by omega) ?_
    rw [(onlyTC.rfl').2.1, hHr hR, hg]
    refine x_if_ne (q := 42) 46 dX9_turningAt_39 (by decide) rfl (fun hc39 => ?_) (fun hc39 => absurd hc39 (by decide))
    refine xn_iconst (q := 47) 0 dX9_turningAt_46 rfl (by decide) ?_
    refine x_istore_n (q := 48) (ls' := [(0, _), (1, _), (2, _), (3, _)]) [1, 2, 3, 0] dX9_turningAt_47 rfl (by decide) rfl ?_
    refine x_iload_n (q := 49) dX9_turningAt_48 rfl rfl ?_
    refine xn_if_le (q := 52) 83 dX9_turningAt_49 (by decide) rfl (by omega) (fun hc49 => absurd hc49 (by omega)) (fun hc49 => ?_)
    refine x_aload_n (q := 53) dX9_turningAt_52 rfl rfl ?_
    refine m_get (q := 56) hM 6 fwX9_19 (by decide) dX9_turningAt_53 rfl rfl ?_
    refine xn_iconst (q := 57) 2 dX9_turningAt_56 rfl (by decide) ?_
    refine x_iload_n (q := 58) dX9_turningAt_57 rfl rfl ?_
    refine xn_imul (q := 59) dX9_turningAt_58 rfl ?_
    refine xn_iconst (q := 60) 1 dX9_turningAt_59 rfl (by decide) ?_
    refine xn_isub (q := 61) dX9_turningAt_60 rfl (by omega) ?_
    refine m_zald (q := 62) hM (n := 6) (by decide) dX9_turningAt_61 rfl (by omega) ?_
    rw [(onlyTC.rfl').2.1, hHl, hl]
    refine x_if_eq (q := 65) 83 dX9_turningAt_62 (by decide) rfl (fun hc62 => ?_) (fun hc62 => absurd (by decide) hc62)
    refine x_iload_n (q := 84) dX9_turningAt_83 rfl rfl ?_
    refine x_aload_n (q := 85) dX9_turningAt_84 rfl rfl ?_
    refine m_get (q := 88) hM 3 fwX9_93 (by decide) dX9_turningAt_85 rfl rfl ?_
    rw [(onlyTC.rfl').1 3 (by decide), hm]
    refine xn_icmp_ge (q := 91) 122 dX9_turningAt_88 (by decide) rfl (by omega) (by omega) (fun hc88 => absurd hc88 (by omega)) (fun hc88 => ?_)
    refine x_aload_n (q := 92) dX9_turningAt_91 rfl rfl ?_
    refine m_get (q := 95) hM 6 fwX9_19 (by decide) dX9_turningAt_92 rfl rfl ?_
    refine xn_iconst (q := 96) 2 dX9_turningAt_95 rfl (by decide) ?_
    refine x_iload_n (q := 97) dX9_turningAt_96 rfl rfl ?_
    refine xn_imul (q := 98) dX9_turningAt_97 rfl ?_
    refine m_zald (q := 99) hM (n := 6) (by decide) dX9_turningAt_98 rfl (by omega) ?_
    rw [(onlyTC.rfl').2.1, hHr hR, hg]
    refine x_if_eq (q := 102) 122 dX9_turningAt_99 (by decide) rfl (fun hc99 => absurd hc99 (by decide)) (fun hc99 => ?_)
    refine x_aload_n (q := 103) dX9_turningAt_102 rfl rfl ?_
    refine xn_iconst (q := 104) 4 dX9_turningAt_103 rfl (by decide) ?_
    refine x_iload_n (q := 105) dX9_turningAt_104 rfl rfl ?_
    refine xn_imul (q := 106) dX9_turningAt_105 rfl ?_
    refine xn_iconst (q := 107) 2 dX9_turningAt_106 rfl (by decide) ?_
    refine xn_iadd (q := 108) dX9_turningAt_107 rfl ?_
    refine xn_lconst (q := 109) 1 dX9_turningAt_108 rfl (by decide) ?_
    refine m_call (q := 112) (As := [_, _]) hM imX9_term ivX9_term ilX9_term mwX9_149 xciX9 dX9_turningAt_109 rfl rfl rfl (Nat.le_of_ble_eq_true rfl) ?_
    refine (c_term G l o as M0 N S (d + 2) σ (r) (4 * node + 2) _ _ (1) (by first | rfl | (simp only [lN_i', ← Int64.ofInt_mul, Int.natCast_mul]; rfl)) hr (by omega) hT).mono (fun x σc1 hp => ?_)
    obtain ⟨rfl, qc1, tc1⟩ := hp
    intro M hM
    have oc1 : onlyTC σ σc1 := (onlyTC.rfl').trans qc1.c
    have hrc1 : σc1.1 21 = nI (r) := by rw [qc1.1]; exact hr
    show xX G l _ (d + 3) _ _ _ [] M N S
    refine x_aload_n (q := 113) dX9_turningAt_112 rfl rfl ?_
    refine x_dup (q := 114) dX9_turningAt_113 rfl rfl ?_
    refine m_get (q := 117) hM 21 fwX9_139 (by decide) dX9_turningAt_114 rfl rfl ?_
    rw [hrc1]
    refine xn_iconst (q := 118) 1 dX9_turningAt_117 rfl (by decide) ?_
    refine xn_iadd (q := 119) dX9_turningAt_118 rfl ?_
    refine m_putG (q := 122) hM 21 fwX9_139 (by decide) rfl rfl rfl dX9_turningAt_119 rfl rfl rfl (fun M σ119 a119 e119 b119 hM => ?_)
    have o119 : onlyTC σ σ119 := (oc1).trans (onlyTC.inc a119 b119)
    have t119 := (tc1).same b119
    refine x_iload_n (q := 123) dX9_turningAt_122 rfl rfl ?_
    refine xn_if_ne (q := 126) 131 dX9_turningAt_123 (by decide) rfl (by omega) (fun hc123 => ?_) (fun hc123 => absurd hc123 (by decide))
    refine x_aload_n (q := 132) dX9_turningAt_131 rfl rfl ?_
    refine m_get (q := 135) hM 8 fwX9_26 (by decide) dX9_turningAt_132 rfl rfl ?_
    refine x_iload_n (q := 136) dX9_turningAt_135 rfl rfl ?_
    refine m_zald (q := 137) hM (n := 4) (by decide) dX9_turningAt_136 rfl (by omega) ?_
    rw [(o119).2.1, hTn, hU]
    refine x_if_eq (q := 140) 186 dX9_turningAt_137 (by decide) rfl (fun hc137 => ?_) (fun hc137 => absurd (by decide) hc137)
    refine x_iload_n (q := 187) dX9_turningAt_186 rfl rfl ?_
    refine xn_if_eq (q := 190) 233 dX9_turningAt_187 (by decide) rfl (by omega) (fun hc187 => absurd hc187 (by decide)) (fun hc187 => ?_)
    refine x_iload_n (q := 191) dX9_turningAt_190 rfl rfl ?_
    refine xn_if_eq (q := 194) 233 dX9_turningAt_191 (by decide) rfl (by omega) (fun hc191 => ?_) (fun hc191 => absurd hc191 (by decide))
    refine x_iload_n (q := 234) dX9_turningAt_233 rfl rfl ?_
    refine xn_if_eq (q := 237) 245 dX9_turningAt_234 (by decide) rfl (by omega) (fun hc234 => absurd hc234 (by decide)) (fun hc234 => ?_)
    refine x_aload_n (q := 238) dX9_turningAt_237 rfl rfl ?_
    refine x_iload_n (q := 239) dX9_turningAt_238 rfl rfl ?_
    refine xn_iconst (q := 240) 1 dX9_turningAt_239 rfl (by decide) ?_
    refine xn_isub (q := 241) dX9_turningAt_240 rfl (by omega) ?_
    refine xn_lconst (q := 242) 1 dX9_turningAt_241 rfl (by decide) ?_
    refine m_call (q := 245) (As := [_, _]) hM imX9_rightMoment ivX9_rightMoment ilX9_rightMoment mwX9_178 xciX9 dX9_turningAt_242 rfl rfl rfl (Nat.le_of_ble_eq_true rfl) ?_
    refine (c_rightMoment G l o as M0 N S d σ119 c (r + 1) (node - 1) _ _ 1 rfl ((o119).cf hc) e119 (by omega) (by omega) t119).mono (fun x σc2 hp => ?_)
    obtain ⟨rfl, qc2, tc2⟩ := hp
    intro M hM
    have oc2 : onlyTC σ σc2 := (o119).trans qc2.c
    have hrc2 : σc2.1 21 = nI (r + 1) := by rw [qc2.1]; exact e119
    show xX G l _ (d + 3) _ _ _ [] M N S
    refine x_iload_n (q := 246) dX9_turningAt_245 rfl rfl ?_
    refine xn_if_eq (q := 249) 261 dX9_turningAt_246 (by decide) rfl (by omega) (fun hc246 => ?_) (fun hc246 => absurd hc246 (by decide))
    refine x_aload_n (q := 262) dX9_turningAt_261 rfl rfl ?_
    refine x_dup (q := 263) dX9_turningAt_262 rfl rfl ?_
    refine m_get (q := 266) hM 21 fwX9_139 (by decide) dX9_turningAt_263 rfl rfl ?_
    rw [hrc2]
    refine xn_iconst (q := 267) 1 dX9_turningAt_266 rfl (by decide) ?_
    refine xn_iadd (q := 268) dX9_turningAt_267 rfl ?_
    refine m_putG (q := 271) hM 21 fwX9_139 (by decide) rfl rfl rfl dX9_turningAt_268 rfl rfl rfl (fun M σ268 a268 e268 b268 hM => ?_)
    have o268 : onlyTC σ σ268 := (oc2).trans (onlyTC.inc a268 b268)
    have t268 := (tc2).same b268
    refine x_vret rfl dX9_turningAt_271 (m_ret hM ⟨rfl, o268, ?_, ?_⟩)
    · simp only [turnP, h0, hR, hl, hg, hU, decide_true, decide_false, Bool.not_true, Bool.not_false, Bool.and_true, Bool.true_and, Bool.and_false, Bool.false_and, Bool.or_true, Bool.true_or, Bool.or_false, Bool.false_or, if_true, if_false, reduceIte, Bool.false_eq_true, Bool.true_eq_false]; exact t268
    · simp only [turnP, h0, hR, hl, hg, hU, decide_true, decide_false, Bool.not_true, Bool.not_false, Bool.and_true, Bool.true_and, Bool.and_false, Bool.false_and, Bool.or_true, Bool.true_or, Bool.or_false, Bool.false_or, if_true, if_false, reduceIte, Bool.false_eq_true, Bool.true_eq_false]; exact e268
  · refine x_iload_n (q := 1) dX9_turningAt_0 rfl rfl ?_
    refine xn_if_le (q := 4) 21 dX9_turningAt_1 (by decide) rfl (by omega) (fun hc1 => absurd hc1 (by omega)) (fun hc1 => ?_)
    refine x_aload_n (q := 5) dX9_turningAt_4 rfl rfl ?_
    refine m_get (q := 8) hM 6 fwX9_19 (by decide) dX9_turningAt_5 rfl rfl ?_
    refine xn_iconst (q := 9) 2 dX9_turningAt_8 rfl (by decide) ?_
    refine x_iload_n (q := 10) dX9_turningAt_9 rfl rfl ?_
    refine xn_imul (q := 11) dX9_turningAt_10 rfl ?_
    refine xn_iconst (q := 12) 1 dX9_turningAt_11 rfl (by decide) ?_
    refine xn_isub (q := 13) dX9_turningAt_12 rfl (by omega) ?_
    refine m_zald (q := 14) hM (n := 6) (by decide) dX9_turningAt_13 rfl (by omega) ?_
    rw [(onlyTC.rfl').2.1, hHl, hl]
    refine x_if_ne (q := 17) 21 dX9_turningAt_14 (by decide) rfl (fun hc14 => absurd hc14 (by decide)) (fun hc14 => ?_)
    refine xn_iconst (q := 18) 1 dX9_turningAt_17 rfl (by decide) ?_
    refine x_goto 22 dX9_turningAt_18 (by decide) ?_
    refine x_istore_n (q := 23) (ls' := [(0, _), (1, _), (2, _)]) [1, 2, 0] dX9_turningAt_22 rfl (by decide) rfl ?_
    refine x_iload_n (q := 24) dX9_turningAt_23 rfl rfl ?_
    refine x_aload_n (q := 25) dX9_turningAt_24 rfl rfl ?_
    refine m_get (q := 28) hM 3 fwX9_93 (by decide) dX9_turningAt_25 rfl rfl ?_
    rw [(onlyTC.rfl').1 3 (by decide), hm]
    refine xn_icmp_ge (q := 31) 46 dX9_turningAt_28 (by decide) rfl (by omega) (by omega) (fun hc28 => absurd hc28 (by omega)) (fun hc28 => ?_)
    refine x_aload_n (q := 32) dX9_turningAt_31 rfl rfl ?_
    refine m_get (q := 35) hM 6 fwX9_19 (by decide) dX9_turningAt_32 rfl rfl ?_
    refine xn_iconst (q := 36) 2 dX9_turningAt_35 rfl (by decide) ?_
    refine x_iload_n (q := 37) dX9_turningAt_36 rfl rfl ?_
    refine xn_imul (q := 38) dX9_turningAt_37 rfl ?_
    refine m_zald (q := 39) hM (n := 6) (by decide) dX9_turningAt_38 rfl (by omega) ?_
    rw [(onlyTC.rfl').2.1, hHr hR, hg]
    refine x_if_ne (q := 42) 46 dX9_turningAt_39 (by decide) rfl (fun hc39 => ?_) (fun hc39 => absurd hc39 (by decide))
    refine xn_iconst (q := 47) 0 dX9_turningAt_46 rfl (by decide) ?_
    refine x_istore_n (q := 48) (ls' := [(0, _), (1, _), (2, _), (3, _)]) [1, 2, 3, 0] dX9_turningAt_47 rfl (by decide) rfl ?_
    refine x_iload_n (q := 49) dX9_turningAt_48 rfl rfl ?_
    refine xn_if_le (q := 52) 83 dX9_turningAt_49 (by decide) rfl (by omega) (fun hc49 => absurd hc49 (by omega)) (fun hc49 => ?_)
    refine x_aload_n (q := 53) dX9_turningAt_52 rfl rfl ?_
    refine m_get (q := 56) hM 6 fwX9_19 (by decide) dX9_turningAt_53 rfl rfl ?_
    refine xn_iconst (q := 57) 2 dX9_turningAt_56 rfl (by decide) ?_
    refine x_iload_n (q := 58) dX9_turningAt_57 rfl rfl ?_
    refine xn_imul (q := 59) dX9_turningAt_58 rfl ?_
    refine xn_iconst (q := 60) 1 dX9_turningAt_59 rfl (by decide) ?_
    refine xn_isub (q := 61) dX9_turningAt_60 rfl (by omega) ?_
    refine m_zald (q := 62) hM (n := 6) (by decide) dX9_turningAt_61 rfl (by omega) ?_
    rw [(onlyTC.rfl').2.1, hHl, hl]
    refine x_if_eq (q := 65) 83 dX9_turningAt_62 (by decide) rfl (fun hc62 => ?_) (fun hc62 => absurd (by decide) hc62)
    refine x_iload_n (q := 84) dX9_turningAt_83 rfl rfl ?_
    refine x_aload_n (q := 85) dX9_turningAt_84 rfl rfl ?_
    refine m_get (q := 88) hM 3 fwX9_93 (by decide) dX9_turningAt_85 rfl rfl ?_
    rw [(onlyTC.rfl').1 3 (by decide), hm]
    refine xn_icmp_ge (q := 91) 122 dX9_turningAt_88 (by decide) rfl (by omega) (by omega) (fun hc88 => absurd hc88 (by omega)) (fun hc88 => ?_)
    refine x_aload_n (q := 92) dX9_turningAt_91 rfl rfl ?_
    refine m_get (q := 95) hM 6 fwX9_19 (by decide) dX9_turningAt_92 rfl rfl ?_
    refine xn_iconst (q := 96) 2 dX9_turningAt_95 rfl (by decide) ?_
    refine x_iload_n (q := 97) dX9_turningAt_96 rfl rfl ?_
    refine xn_imul (q := 98) dX9_turningAt_97 rfl ?_
    refine m_zald (q := 99) hM (n := 6) (by decide) dX9_turningAt_98 rfl (by omega) ?_
    rw [(onlyTC.rfl').2.1, hHr hR, hg]
    refine x_if_eq (q := 102) 122 dX9_turningAt_99 (by decide) rfl (fun hc99 => absurd hc99 (by decide)) (fun hc99 => ?_)
    refine x_aload_n (q := 103) dX9_turningAt_102 rfl rfl ?_
    refine xn_iconst (q := 104) 4 dX9_turningAt_103 rfl (by decide) ?_
    refine x_iload_n (q := 105) dX9_turningAt_104 rfl rfl ?_
    refine xn_imul (q := 106) dX9_turningAt_105 rfl ?_
    refine xn_iconst (q := 107) 2 dX9_turningAt_106 rfl (by decide) ?_
    refine xn_iadd (q := 108) dX9_turningAt_107 rfl ?_
    refine xn_lconst (q := 109) 1 dX9_turningAt_108 rfl (by decide) ?_
    refine m_call (q := 112) (As := [_, _]) hM imX9_term ivX9_term ilX9_term mwX9_149 xciX9 dX9_turningAt_109 rfl rfl rfl (Nat.le_of_ble_eq_true rfl) ?_
    refine (c_term G l o as M0 N S (d + 2) σ (r) (4 * node + 2) _ _ (1) (by first | rfl | (simp only [lN_i', ← Int64.ofInt_mul, Int.natCast_mul]; rfl)) hr (by omega) hT).mono (fun x σc1 hp => ?_)
    obtain ⟨rfl, qc1, tc1⟩ := hp
    intro M hM
    have oc1 : onlyTC σ σc1 := (onlyTC.rfl').trans qc1.c
    have hrc1 : σc1.1 21 = nI (r) := by rw [qc1.1]; exact hr
    show xX G l _ (d + 3) _ _ _ [] M N S
    refine x_aload_n (q := 113) dX9_turningAt_112 rfl rfl ?_
    refine x_dup (q := 114) dX9_turningAt_113 rfl rfl ?_
    refine m_get (q := 117) hM 21 fwX9_139 (by decide) dX9_turningAt_114 rfl rfl ?_
    rw [hrc1]
    refine xn_iconst (q := 118) 1 dX9_turningAt_117 rfl (by decide) ?_
    refine xn_iadd (q := 119) dX9_turningAt_118 rfl ?_
    refine m_putG (q := 122) hM 21 fwX9_139 (by decide) rfl rfl rfl dX9_turningAt_119 rfl rfl rfl (fun M σ119 a119 e119 b119 hM => ?_)
    have o119 : onlyTC σ σ119 := (oc1).trans (onlyTC.inc a119 b119)
    have t119 := (tc1).same b119
    refine x_iload_n (q := 123) dX9_turningAt_122 rfl rfl ?_
    refine xn_if_ne (q := 126) 131 dX9_turningAt_123 (by decide) rfl (by omega) (fun hc123 => ?_) (fun hc123 => absurd hc123 (by decide))
    refine x_aload_n (q := 132) dX9_turningAt_131 rfl rfl ?_
    refine m_get (q := 135) hM 8 fwX9_26 (by decide) dX9_turningAt_132 rfl rfl ?_
    refine x_iload_n (q := 136) dX9_turningAt_135 rfl rfl ?_
    refine m_zald (q := 137) hM (n := 4) (by decide) dX9_turningAt_136 rfl (by omega) ?_
    rw [(o119).2.1, hTn, hU]
    refine x_if_eq (q := 140) 186 dX9_turningAt_137 (by decide) rfl (fun hc137 => absurd hc137 (by decide)) (fun hc137 => ?_)
    refine x_iload_n (q := 141) dX9_turningAt_140 rfl rfl ?_
    refine xn_if_eq (q := 144) 161 dX9_turningAt_141 (by decide) rfl (by omega) (fun hc141 => absurd hc141 (by decide)) (fun hc141 => ?_)
    refine x_aload_n (q := 145) dX9_turningAt_144 rfl rfl ?_
    refine x_iload_n (q := 146) dX9_turningAt_145 rfl rfl ?_
    refine xn_iconst (q := 147) 1 dX9_turningAt_146 rfl (by decide) ?_
    refine xn_isub (q := 148) dX9_turningAt_147 rfl (by omega) ?_
    refine m_call (q := 151) (As := [_]) hM imX9_rightTurn ivX9_rightTurn ilX9_rightTurn mwX9_181 xciX9 dX9_turningAt_148 rfl rfl rfl (Nat.le_of_ble_eq_true rfl) ?_
    refine (c_rightTurn G l o as M0 N S d σ119 c (r + 1) (node - 1) _ ((o119).cf hc) e119 (by omega) (by omega) t119).mono (fun x σc2 hp => ?_)
    obtain ⟨rfl, qc2, tc2⟩ := hp
    intro M hM
    have oc2 : onlyTC σ σc2 := (o119).trans qc2.c
    have hrc2 : σc2.1 21 = nI (r + 1) := by rw [qc2.1]; exact e119
    show xX G l _ (d + 3) _ _ _ [] M N S
    refine x_aload_n (q := 152) dX9_turningAt_151 rfl rfl ?_
    refine x_dup (q := 153) dX9_turningAt_152 rfl rfl ?_
    refine m_get (q := 156) hM 21 fwX9_139 (by decide) dX9_turningAt_153 rfl rfl ?_
    rw [hrc2]
    refine xn_iconst (q := 157) 1 dX9_turningAt_156 rfl (by decide) ?_
    refine xn_iadd (q := 158) dX9_turningAt_157 rfl ?_
    refine m_putG (q := 161) hM 21 fwX9_139 (by decide) rfl rfl rfl dX9_turningAt_158 rfl rfl rfl (fun M σ158 a158 e158 b158 hM => ?_)
    have o158 : onlyTC σ σ158 := (oc2).trans (onlyTC.inc a158 b158)
    have t158 := (tc2).same b158
    refine x_iload_n (q := 162) dX9_turningAt_161 rfl rfl ?_
    refine xn_if_eq (q := 165) 185 dX9_turningAt_162 (by decide) rfl (by omega) (fun hc162 => ?_) (fun hc162 => absurd hc162 (by decide))
    refine x_vret rfl dX9_turningAt_185 (m_ret hM ⟨rfl, o158, ?_, ?_⟩)
    · simp only [turnP, h0, hR, hl, hg, hU, decide_true, decide_false, Bool.not_true, Bool.not_false, Bool.and_true, Bool.true_and, Bool.and_false, Bool.false_and, Bool.or_true, Bool.true_or, Bool.or_false, Bool.false_or, if_true, if_false, reduceIte, Bool.false_eq_true, Bool.true_eq_false]; exact t158
    · simp only [turnP, h0, hR, hl, hg, hU, decide_true, decide_false, Bool.not_true, Bool.not_false, Bool.and_true, Bool.true_and, Bool.and_false, Bool.false_and, Bool.or_true, Bool.true_or, Bool.or_false, Bool.false_or, if_true, if_false, reduceIte, Bool.false_eq_true, Bool.true_eq_false]; exact e158
  · refine x_iload_n (q := 1) dX9_turningAt_0 rfl rfl ?_
    refine xn_if_le (q := 4) 21 dX9_turningAt_1 (by decide) rfl (by omega) (fun hc1 => absurd hc1 (by omega)) (fun hc1 => ?_)
    refine x_aload_n (q := 5) dX9_turningAt_4 rfl rfl ?_
    refine m_get (q := 8) hM 6 fwX9_19 (by decide) dX9_turningAt_5 rfl rfl ?_
    refine xn_iconst (q := 9) 2 dX9_turningAt_8 rfl (by decide) ?_
    refine x_iload_n (q := 10) dX9_turningAt_9 rfl rfl ?_
    refine xn_imul (q := 11) dX9_turningAt_10 rfl ?_
    refine xn_iconst (q := 12) 1 dX9_turningAt_11 rfl (by decide) ?_
    refine xn_isub (q := 13) dX9_turningAt_12 rfl (by omega) ?_
    refine m_zald (q := 14) hM (n := 6) (by decide) dX9_turningAt_13 rfl (by omega) ?_
    rw [(onlyTC.rfl').2.1, hHl, hl]
    refine x_if_ne (q := 17) 21 dX9_turningAt_14 (by decide) rfl (fun hc14 => ?_) (fun hc14 => absurd hc14 (by decide))
    refine xn_iconst (q := 22) 0 dX9_turningAt_21 rfl (by decide) ?_
    refine x_istore_n (q := 23) (ls' := [(0, _), (1, _), (2, _)]) [1, 2, 0] dX9_turningAt_22 rfl (by decide) rfl ?_
    refine x_iload_n (q := 24) dX9_turningAt_23 rfl rfl ?_
    refine x_aload_n (q := 25) dX9_turningAt_24 rfl rfl ?_
    refine m_get (q := 28) hM 3 fwX9_93 (by decide) dX9_turningAt_25 rfl rfl ?_
    rw [(onlyTC.rfl').1 3 (by decide), hm]
    refine xn_icmp_ge (q := 31) 46 dX9_turningAt_28 (by decide) rfl (by omega) (by omega) (fun hc28 => absurd hc28 (by omega)) (fun hc28 => ?_)
    refine x_aload_n (q := 32) dX9_turningAt_31 rfl rfl ?_
    refine m_get (q := 35) hM 6 fwX9_19 (by decide) dX9_turningAt_32 rfl rfl ?_
    refine xn_iconst (q := 36) 2 dX9_turningAt_35 rfl (by decide) ?_
    refine x_iload_n (q := 37) dX9_turningAt_36 rfl rfl ?_
    refine xn_imul (q := 38) dX9_turningAt_37 rfl ?_
    refine m_zald (q := 39) hM (n := 6) (by decide) dX9_turningAt_38 rfl (by omega) ?_
    rw [(onlyTC.rfl').2.1, hHr hR, hg]
    refine x_if_ne (q := 42) 46 dX9_turningAt_39 (by decide) rfl (fun hc39 => absurd hc39 (by decide)) (fun hc39 => ?_)
    refine xn_iconst (q := 43) 1 dX9_turningAt_42 rfl (by decide) ?_
    refine x_goto 47 dX9_turningAt_43 (by decide) ?_
    refine x_istore_n (q := 48) (ls' := [(0, _), (1, _), (2, _), (3, _)]) [1, 2, 3, 0] dX9_turningAt_47 rfl (by decide) rfl ?_
    refine x_iload_n (q := 49) dX9_turningAt_48 rfl rfl ?_
    refine xn_if_le (q := 52) 83 dX9_turningAt_49 (by decide) rfl (by omega) (fun hc49 => absurd hc49 (by omega)) (fun hc49 => ?_)
    refine x_aload_n (q := 53) dX9_turningAt_52 rfl rfl ?_
    refine m_get (q := 56) hM 6 fwX9_19 (by decide) dX9_turningAt_53 rfl rfl ?_
    refine xn_iconst (q := 57) 2 dX9_turningAt_56 rfl (by decide) ?_
    refine x_iload_n (q := 58) dX9_turningAt_57 rfl rfl ?_
    refine xn_imul (q := 59) dX9_turningAt_58 rfl ?_
    refine xn_iconst (q := 60) 1 dX9_turningAt_59 rfl (by decide) ?_
    refine xn_isub (q := 61) dX9_turningAt_60 rfl (by omega) ?_
    refine m_zald (q := 62) hM (n := 6) (by decide) dX9_turningAt_61 rfl (by omega) ?_
    rw [(onlyTC.rfl').2.1, hHl, hl]
    refine x_if_eq (q := 65) 83 dX9_turningAt_62 (by decide) rfl (fun hc62 => absurd hc62 (by decide)) (fun hc62 => ?_)
    refine x_aload_n (q := 66) dX9_turningAt_65 rfl rfl ?_
    refine x_iload_n (q := 67) dX9_turningAt_66 rfl rfl ?_
    refine xn_iconst (q := 68) 1 dX9_turningAt_67 rfl (by decide) ?_
    refine xn_isub (q := 69) dX9_turningAt_68 rfl (by omega) ?_
    refine xn_lconst (q := 70) 1 dX9_turningAt_69 rfl (by decide) ?_
    refine m_call (q := 73) (As := [_, _]) hM imX9_rightMoment ivX9_rightMoment ilX9_rightMoment mwX9_178 xciX9 dX9_turningAt_70 rfl rfl rfl (Nat.le_of_ble_eq_true rfl) ?_
    refine (c_rightMoment G l o as M0 N S d σ c (r) (node - 1) _ _ 1 rfl ((onlyTC.rfl').cf hc) hr (by omega) (by omega) hT).mono (fun x σc1 hp => ?_)
    obtain ⟨rfl, qc1, tc1⟩ := hp
    intro M hM
    have oc1 : onlyTC σ σc1 := (onlyTC.rfl').trans qc1.c
    have hrc1 : σc1.1 21 = nI (r) := by rw [qc1.1]; exact hr
    show xX G l _ (d + 3) _ _ _ [] M N S
    refine x_aload_n (q := 74) dX9_turningAt_73 rfl rfl ?_
    refine x_dup (q := 75) dX9_turningAt_74 rfl rfl ?_
    refine m_get (q := 78) hM 21 fwX9_139 (by decide) dX9_turningAt_75 rfl rfl ?_
    rw [hrc1]
    refine xn_iconst (q := 79) 1 dX9_turningAt_78 rfl (by decide) ?_
    refine xn_iadd (q := 80) dX9_turningAt_79 rfl ?_
    refine m_putG (q := 83) hM 21 fwX9_139 (by decide) rfl rfl rfl dX9_turningAt_80 rfl rfl rfl (fun M σ80 a80 e80 b80 hM => ?_)
    have o80 : onlyTC σ σ80 := (oc1).trans (onlyTC.inc a80 b80)
    have t80 := (tc1).same b80
    refine x_iload_n (q := 84) dX9_turningAt_83 rfl rfl ?_
    refine x_aload_n (q := 85) dX9_turningAt_84 rfl rfl ?_
    refine m_get (q := 88) hM 3 fwX9_93 (by decide) dX9_turningAt_85 rfl rfl ?_
    rw [(o80).1 3 (by decide), hm]
    refine xn_icmp_ge (q := 91) 122 dX9_turningAt_88 (by decide) rfl (by omega) (by omega) (fun hc88 => absurd hc88 (by omega)) (fun hc88 => ?_)
    refine x_aload_n (q := 92) dX9_turningAt_91 rfl rfl ?_
    refine m_get (q := 95) hM 6 fwX9_19 (by decide) dX9_turningAt_92 rfl rfl ?_
    refine xn_iconst (q := 96) 2 dX9_turningAt_95 rfl (by decide) ?_
    refine x_iload_n (q := 97) dX9_turningAt_96 rfl rfl ?_
    refine xn_imul (q := 98) dX9_turningAt_97 rfl ?_
    refine m_zald (q := 99) hM (n := 6) (by decide) dX9_turningAt_98 rfl (by omega) ?_
    rw [(o80).2.1, hHr hR, hg]
    refine x_if_eq (q := 102) 122 dX9_turningAt_99 (by decide) rfl (fun hc99 => ?_) (fun hc99 => absurd (by decide) hc99)
    refine x_iload_n (q := 123) dX9_turningAt_122 rfl rfl ?_
    refine xn_if_ne (q := 126) 131 dX9_turningAt_123 (by decide) rfl (by omega) (fun hc123 => absurd hc123 (by decide)) (fun hc123 => ?_)
    refine x_iload_n (q := 127) dX9_turningAt_126 rfl rfl ?_
    refine xn_if_ne (q := 130) 131 dX9_turningAt_127 (by decide) rfl (by omega) (fun hc127 => ?_) (fun hc127 => absurd hc127 (by decide))
    refine x_aload_n (q := 132) dX9_turningAt_131 rfl rfl ?_
    refine m_get (q := 135) hM 8 fwX9_26 (by decide) dX9_turningAt_132 rfl rfl ?_
    refine x_iload_n (q := 136) dX9_turningAt_135 rfl rfl ?_
    refine m_zald (q := 137) hM (n := 4) (by decide) dX9_turningAt_136 rfl (by omega) ?_
    rw [(o80).2.1, hTn, hU]
    refine x_if_eq (q := 140) 186 dX9_turningAt_137 (by decide) rfl (fun hc137 => ?_) (fun hc137 => absurd (by decide) hc137)
    refine x_iload_n (q := 187) dX9_turningAt_186 rfl rfl ?_
    refine xn_if_eq (q := 190) 233 dX9_turningAt_187 (by decide) rfl (by omega) (fun hc187 => ?_) (fun hc187 => absurd hc187 (by decide))
    refine x_iload_n (q := 234) dX9_turningAt_233 rfl rfl ?_
    refine xn_if_eq (q := 237) 245 dX9_turningAt_234 (by decide) rfl (by omega) (fun hc234 => ?_) (fun hc234 => absurd hc234 (by decide))
    refine x_iload_n (q := 246) dX9_turningAt_245 rfl rfl ?_
    refine xn_if_eq (q := 249) 261 dX9_turningAt_246 (by decide) rfl (by omega) (fun hc246 => absurd hc246 (by decide)) (fun hc246 => ?_)
    refine x_aload_n (q := 250) dX9_turningAt_249 rfl rfl ?_
    refine xn_iconst (q := 251) 4 dX9_turningAt_250 rfl (by decide) ?_
    refine x_iload_n (q := 252) dX9_turningAt_251 rfl rfl ?_
    refine xn_imul (q := 253) dX9_turningAt_252 rfl ?_
    refine xn_iconst (q := 254) 2 dX9_turningAt_253 rfl (by decide) ?_
    refine xn_iadd (q := 255) dX9_turningAt_254 rfl ?_
    refine x_ldc2 (q := 258) (-4) dX9_turningAt_255 rfl cwX9_184 ?_
    refine x_topl (y := iL (-4)) (by decide) ?_
    refine m_call (q := 261) (As := [_, _]) hM imX9_term ivX9_term ilX9_term mwX9_149 xciX9 dX9_turningAt_258 rfl rfl rfl (Nat.le_of_ble_eq_true rfl) ?_
    refine (c_term G l o as M0 N S (d + 2) σ80 (r + 1) (4 * node + 2) _ _ (-4) (by first | rfl | (simp only [lN_i', ← Int64.ofInt_mul, Int.natCast_mul]; rfl)) e80 (by omega) t80).mono (fun x σc2 hp => ?_)
    obtain ⟨rfl, qc2, tc2⟩ := hp
    intro M hM
    have oc2 : onlyTC σ σc2 := (o80).trans qc2.c
    have hrc2 : σc2.1 21 = nI (r + 1) := by rw [qc2.1]; exact e80
    show xX G l _ (d + 3) _ _ _ [] M N S
    refine x_aload_n (q := 262) dX9_turningAt_261 rfl rfl ?_
    refine x_dup (q := 263) dX9_turningAt_262 rfl rfl ?_
    refine m_get (q := 266) hM 21 fwX9_139 (by decide) dX9_turningAt_263 rfl rfl ?_
    rw [hrc2]
    refine xn_iconst (q := 267) 1 dX9_turningAt_266 rfl (by decide) ?_
    refine xn_iadd (q := 268) dX9_turningAt_267 rfl ?_
    refine m_putG (q := 271) hM 21 fwX9_139 (by decide) rfl rfl rfl dX9_turningAt_268 rfl rfl rfl (fun M σ268 a268 e268 b268 hM => ?_)
    have o268 : onlyTC σ σ268 := (oc2).trans (onlyTC.inc a268 b268)
    have t268 := (tc2).same b268
    refine x_vret rfl dX9_turningAt_271 (m_ret hM ⟨rfl, o268, ?_, ?_⟩)
    · simp only [turnP, h0, hR, hl, hg, hU, decide_true, decide_false, Bool.not_true, Bool.not_false, Bool.and_true, Bool.true_and, Bool.and_false, Bool.false_and, Bool.or_true, Bool.true_or, Bool.or_false, Bool.false_or, if_true, if_false, reduceIte, Bool.false_eq_true, Bool.true_eq_false]; exact t268
    · simp only [turnP, h0, hR, hl, hg, hU, decide_true, decide_false, Bool.not_true, Bool.not_false, Bool.and_true, Bool.true_and, Bool.and_false, Bool.false_and, Bool.or_true, Bool.true_or, Bool.or_false, Bool.false_or, if_true, if_false, reduceIte, Bool.false_eq_true, Bool.true_eq_false]; exact e268
  · refine x_iload_n (q := 1) dX9_turningAt_0 rfl rfl ?_
    refine xn_if_le (q := 4) 21 dX9_turningAt_1 (by decide) rfl (by omega) (fun hc1 => absurd hc1 (by omega)) (fun hc1 => ?_)
    refine x_aload_n (q := 5) dX9_turningAt_4 rfl rfl ?_
    refine m_get (q := 8) hM 6 fwX9_19 (by decide) dX9_turningAt_5 rfl rfl ?_
    refine xn_iconst (q := 9) 2 dX9_turningAt_8 rfl (by decide) ?_
    refine x_iload_n (q := 10) dX9_turningAt_9 rfl rfl ?_
    refine xn_imul (q := 11) dX9_turningAt_10 rfl ?_
    refine xn_iconst (q := 12) 1 dX9_turningAt_11 rfl (by decide) ?_
    refine xn_isub (q := 13) dX9_turningAt_12 rfl (by omega) ?_
    refine m_zald (q := 14) hM (n := 6) (by decide) dX9_turningAt_13 rfl (by omega) ?_
    rw [(onlyTC.rfl').2.1, hHl, hl]
    refine x_if_ne (q := 17) 21 dX9_turningAt_14 (by decide) rfl (fun hc14 => ?_) (fun hc14 => absurd hc14 (by decide))
    refine xn_iconst (q := 22) 0 dX9_turningAt_21 rfl (by decide) ?_
    refine x_istore_n (q := 23) (ls' := [(0, _), (1, _), (2, _)]) [1, 2, 0] dX9_turningAt_22 rfl (by decide) rfl ?_
    refine x_iload_n (q := 24) dX9_turningAt_23 rfl rfl ?_
    refine x_aload_n (q := 25) dX9_turningAt_24 rfl rfl ?_
    refine m_get (q := 28) hM 3 fwX9_93 (by decide) dX9_turningAt_25 rfl rfl ?_
    rw [(onlyTC.rfl').1 3 (by decide), hm]
    refine xn_icmp_ge (q := 31) 46 dX9_turningAt_28 (by decide) rfl (by omega) (by omega) (fun hc28 => absurd hc28 (by omega)) (fun hc28 => ?_)
    refine x_aload_n (q := 32) dX9_turningAt_31 rfl rfl ?_
    refine m_get (q := 35) hM 6 fwX9_19 (by decide) dX9_turningAt_32 rfl rfl ?_
    refine xn_iconst (q := 36) 2 dX9_turningAt_35 rfl (by decide) ?_
    refine x_iload_n (q := 37) dX9_turningAt_36 rfl rfl ?_
    refine xn_imul (q := 38) dX9_turningAt_37 rfl ?_
    refine m_zald (q := 39) hM (n := 6) (by decide) dX9_turningAt_38 rfl (by omega) ?_
    rw [(onlyTC.rfl').2.1, hHr hR, hg]
    refine x_if_ne (q := 42) 46 dX9_turningAt_39 (by decide) rfl (fun hc39 => absurd hc39 (by decide)) (fun hc39 => ?_)
    refine xn_iconst (q := 43) 1 dX9_turningAt_42 rfl (by decide) ?_
    refine x_goto 47 dX9_turningAt_43 (by decide) ?_
    refine x_istore_n (q := 48) (ls' := [(0, _), (1, _), (2, _), (3, _)]) [1, 2, 3, 0] dX9_turningAt_47 rfl (by decide) rfl ?_
    refine x_iload_n (q := 49) dX9_turningAt_48 rfl rfl ?_
    refine xn_if_le (q := 52) 83 dX9_turningAt_49 (by decide) rfl (by omega) (fun hc49 => absurd hc49 (by omega)) (fun hc49 => ?_)
    refine x_aload_n (q := 53) dX9_turningAt_52 rfl rfl ?_
    refine m_get (q := 56) hM 6 fwX9_19 (by decide) dX9_turningAt_53 rfl rfl ?_
    refine xn_iconst (q := 57) 2 dX9_turningAt_56 rfl (by decide) ?_
    refine x_iload_n (q := 58) dX9_turningAt_57 rfl rfl ?_
    refine xn_imul (q := 59) dX9_turningAt_58 rfl ?_
    refine xn_iconst (q := 60) 1 dX9_turningAt_59 rfl (by decide) ?_
    refine xn_isub (q := 61) dX9_turningAt_60 rfl (by omega) ?_
    refine m_zald (q := 62) hM (n := 6) (by decide) dX9_turningAt_61 rfl (by omega) ?_
    rw [(onlyTC.rfl').2.1, hHl, hl]
    refine x_if_eq (q := 65) 83 dX9_turningAt_62 (by decide) rfl (fun hc62 => absurd hc62 (by decide)) (fun hc62 => ?_)
    refine x_aload_n (q := 66) dX9_turningAt_65 rfl rfl ?_
    refine x_iload_n (q := 67) dX9_turningAt_66 rfl rfl ?_
    refine xn_iconst (q := 68) 1 dX9_turningAt_67 rfl (by decide) ?_
    refine xn_isub (q := 69) dX9_turningAt_68 rfl (by omega) ?_
    refine xn_lconst (q := 70) 1 dX9_turningAt_69 rfl (by decide) ?_
    refine m_call (q := 73) (As := [_, _]) hM imX9_rightMoment ivX9_rightMoment ilX9_rightMoment mwX9_178 xciX9 dX9_turningAt_70 rfl rfl rfl (Nat.le_of_ble_eq_true rfl) ?_
    refine (c_rightMoment G l o as M0 N S d σ c (r) (node - 1) _ _ 1 rfl ((onlyTC.rfl').cf hc) hr (by omega) (by omega) hT).mono (fun x σc1 hp => ?_)
    obtain ⟨rfl, qc1, tc1⟩ := hp
    intro M hM
    have oc1 : onlyTC σ σc1 := (onlyTC.rfl').trans qc1.c
    have hrc1 : σc1.1 21 = nI (r) := by rw [qc1.1]; exact hr
    show xX G l _ (d + 3) _ _ _ [] M N S
    refine x_aload_n (q := 74) dX9_turningAt_73 rfl rfl ?_
    refine x_dup (q := 75) dX9_turningAt_74 rfl rfl ?_
    refine m_get (q := 78) hM 21 fwX9_139 (by decide) dX9_turningAt_75 rfl rfl ?_
    rw [hrc1]
    refine xn_iconst (q := 79) 1 dX9_turningAt_78 rfl (by decide) ?_
    refine xn_iadd (q := 80) dX9_turningAt_79 rfl ?_
    refine m_putG (q := 83) hM 21 fwX9_139 (by decide) rfl rfl rfl dX9_turningAt_80 rfl rfl rfl (fun M σ80 a80 e80 b80 hM => ?_)
    have o80 : onlyTC σ σ80 := (oc1).trans (onlyTC.inc a80 b80)
    have t80 := (tc1).same b80
    refine x_iload_n (q := 84) dX9_turningAt_83 rfl rfl ?_
    refine x_aload_n (q := 85) dX9_turningAt_84 rfl rfl ?_
    refine m_get (q := 88) hM 3 fwX9_93 (by decide) dX9_turningAt_85 rfl rfl ?_
    rw [(o80).1 3 (by decide), hm]
    refine xn_icmp_ge (q := 91) 122 dX9_turningAt_88 (by decide) rfl (by omega) (by omega) (fun hc88 => absurd hc88 (by omega)) (fun hc88 => ?_)
    refine x_aload_n (q := 92) dX9_turningAt_91 rfl rfl ?_
    refine m_get (q := 95) hM 6 fwX9_19 (by decide) dX9_turningAt_92 rfl rfl ?_
    refine xn_iconst (q := 96) 2 dX9_turningAt_95 rfl (by decide) ?_
    refine x_iload_n (q := 97) dX9_turningAt_96 rfl rfl ?_
    refine xn_imul (q := 98) dX9_turningAt_97 rfl ?_
    refine m_zald (q := 99) hM (n := 6) (by decide) dX9_turningAt_98 rfl (by omega) ?_
    rw [(o80).2.1, hHr hR, hg]
    refine x_if_eq (q := 102) 122 dX9_turningAt_99 (by decide) rfl (fun hc99 => ?_) (fun hc99 => absurd (by decide) hc99)
    refine x_iload_n (q := 123) dX9_turningAt_122 rfl rfl ?_
    refine xn_if_ne (q := 126) 131 dX9_turningAt_123 (by decide) rfl (by omega) (fun hc123 => absurd hc123 (by decide)) (fun hc123 => ?_)
    refine x_iload_n (q := 127) dX9_turningAt_126 rfl rfl ?_
    refine xn_if_ne (q := 130) 131 dX9_turningAt_127 (by decide) rfl (by omega) (fun hc127 => ?_) (fun hc127 => absurd hc127 (by decide))
    refine x_aload_n (q := 132) dX9_turningAt_131 rfl rfl ?_
    refine m_get (q := 135) hM 8 fwX9_26 (by decide) dX9_turningAt_132 rfl rfl ?_
    refine x_iload_n (q := 136) dX9_turningAt_135 rfl rfl ?_
    refine m_zald (q := 137) hM (n := 4) (by decide) dX9_turningAt_136 rfl (by omega) ?_
    rw [(o80).2.1, hTn, hU]
    refine x_if_eq (q := 140) 186 dX9_turningAt_137 (by decide) rfl (fun hc137 => absurd hc137 (by decide)) (fun hc137 => ?_)
    refine x_iload_n (q := 141) dX9_turningAt_140 rfl rfl ?_
    refine xn_if_eq (q := 144) 161 dX9_turningAt_141 (by decide) rfl (by omega) (fun hc141 => ?_) (fun hc141 => absurd hc141 (by decide))
    refine x_iload_n (q := 162) dX9_turningAt_161 rfl rfl ?_
    refine xn_if_eq (q := 165) 185 dX9_turningAt_162 (by decide) rfl (by omega) (fun hc162 => absurd hc162 (by decide)) (fun hc162 => ?_)
    refine x_aload_n (q := 166) dX9_turningAt_165 rfl rfl ?_
    refine xn_iconst (q := 167) 4 dX9_turningAt_166 rfl (by decide) ?_
    refine x_iload_n (q := 168) dX9_turningAt_167 rfl rfl ?_
    refine xn_imul (q := 169) dX9_turningAt_168 rfl ?_
    refine xn_iconst (q := 170) 1 dX9_turningAt_169 rfl (by decide) ?_
    refine xn_iadd (q := 171) dX9_turningAt_170 rfl ?_
    refine xn_lconst (q := 172) 1 dX9_turningAt_171 rfl (by decide) ?_
    refine m_call (q := 175) (As := [_, _]) hM imX9_term ivX9_term ilX9_term mwX9_149 xciX9 dX9_turningAt_172 rfl rfl rfl (Nat.le_of_ble_eq_true rfl) ?_
    refine (c_term G l o as M0 N S (d + 2) σ80 (r + 1) (4 * node + 1) _ _ (1) (by first | rfl | (simp only [lN_i', ← Int64.ofInt_mul, Int.natCast_mul]; rfl)) e80 (by omega) t80).mono (fun x σc2 hp => ?_)
    obtain ⟨rfl, qc2, tc2⟩ := hp
    intro M hM
    have oc2 : onlyTC σ σc2 := (o80).trans qc2.c
    have hrc2 : σc2.1 21 = nI (r + 1) := by rw [qc2.1]; exact e80
    show xX G l _ (d + 3) _ _ _ [] M N S
    refine x_aload_n (q := 176) dX9_turningAt_175 rfl rfl ?_
    refine x_dup (q := 177) dX9_turningAt_176 rfl rfl ?_
    refine m_get (q := 180) hM 21 fwX9_139 (by decide) dX9_turningAt_177 rfl rfl ?_
    rw [hrc2]
    refine xn_iconst (q := 181) 1 dX9_turningAt_180 rfl (by decide) ?_
    refine xn_iadd (q := 182) dX9_turningAt_181 rfl ?_
    refine m_putG (q := 185) hM 21 fwX9_139 (by decide) rfl rfl rfl dX9_turningAt_182 rfl rfl rfl (fun M σ182 a182 e182 b182 hM => ?_)
    have o182 : onlyTC σ σ182 := (oc2).trans (onlyTC.inc a182 b182)
    have t182 := (tc2).same b182
    refine x_vret rfl dX9_turningAt_185 (m_ret hM ⟨rfl, o182, ?_, ?_⟩)
    · simp only [turnP, h0, hR, hl, hg, hU, decide_true, decide_false, Bool.not_true, Bool.not_false, Bool.and_true, Bool.true_and, Bool.and_false, Bool.false_and, Bool.or_true, Bool.true_or, Bool.or_false, Bool.false_or, if_true, if_false, reduceIte, Bool.false_eq_true, Bool.true_eq_false]; exact t182
    · simp only [turnP, h0, hR, hl, hg, hU, decide_true, decide_false, Bool.not_true, Bool.not_false, Bool.and_true, Bool.true_and, Bool.and_false, Bool.false_and, Bool.or_true, Bool.true_or, Bool.or_false, Bool.false_or, if_true, if_false, reduceIte, Bool.false_eq_true, Bool.true_eq_false]; exact e182
  · refine x_iload_n (q := 1) dX9_turningAt_0 rfl rfl ?_
    refine xn_if_le (q := 4) 21 dX9_turningAt_1 (by decide) rfl (by omega) (fun hc1 => absurd hc1 (by omega)) (fun hc1 => ?_)
    refine x_aload_n (q := 5) dX9_turningAt_4 rfl rfl ?_
    refine m_get (q := 8) hM 6 fwX9_19 (by decide) dX9_turningAt_5 rfl rfl ?_
    refine xn_iconst (q := 9) 2 dX9_turningAt_8 rfl (by decide) ?_
    refine x_iload_n (q := 10) dX9_turningAt_9 rfl rfl ?_
    refine xn_imul (q := 11) dX9_turningAt_10 rfl ?_
    refine xn_iconst (q := 12) 1 dX9_turningAt_11 rfl (by decide) ?_
    refine xn_isub (q := 13) dX9_turningAt_12 rfl (by omega) ?_
    refine m_zald (q := 14) hM (n := 6) (by decide) dX9_turningAt_13 rfl (by omega) ?_
    rw [(onlyTC.rfl').2.1, hHl, hl]
    refine x_if_ne (q := 17) 21 dX9_turningAt_14 (by decide) rfl (fun hc14 => ?_) (fun hc14 => absurd hc14 (by decide))
    refine xn_iconst (q := 22) 0 dX9_turningAt_21 rfl (by decide) ?_
    refine x_istore_n (q := 23) (ls' := [(0, _), (1, _), (2, _)]) [1, 2, 0] dX9_turningAt_22 rfl (by decide) rfl ?_
    refine x_iload_n (q := 24) dX9_turningAt_23 rfl rfl ?_
    refine x_aload_n (q := 25) dX9_turningAt_24 rfl rfl ?_
    refine m_get (q := 28) hM 3 fwX9_93 (by decide) dX9_turningAt_25 rfl rfl ?_
    rw [(onlyTC.rfl').1 3 (by decide), hm]
    refine xn_icmp_ge (q := 31) 46 dX9_turningAt_28 (by decide) rfl (by omega) (by omega) (fun hc28 => absurd hc28 (by omega)) (fun hc28 => ?_)
    refine x_aload_n (q := 32) dX9_turningAt_31 rfl rfl ?_
    refine m_get (q := 35) hM 6 fwX9_19 (by decide) dX9_turningAt_32 rfl rfl ?_
    refine xn_iconst (q := 36) 2 dX9_turningAt_35 rfl (by decide) ?_
    refine x_iload_n (q := 37) dX9_turningAt_36 rfl rfl ?_
    refine xn_imul (q := 38) dX9_turningAt_37 rfl ?_
    refine m_zald (q := 39) hM (n := 6) (by decide) dX9_turningAt_38 rfl (by omega) ?_
    rw [(onlyTC.rfl').2.1, hHr hR, hg]
    refine x_if_ne (q := 42) 46 dX9_turningAt_39 (by decide) rfl (fun hc39 => ?_) (fun hc39 => absurd hc39 (by decide))
    refine xn_iconst (q := 47) 0 dX9_turningAt_46 rfl (by decide) ?_
    refine x_istore_n (q := 48) (ls' := [(0, _), (1, _), (2, _), (3, _)]) [1, 2, 3, 0] dX9_turningAt_47 rfl (by decide) rfl ?_
    refine x_iload_n (q := 49) dX9_turningAt_48 rfl rfl ?_
    refine xn_if_le (q := 52) 83 dX9_turningAt_49 (by decide) rfl (by omega) (fun hc49 => absurd hc49 (by omega)) (fun hc49 => ?_)
    refine x_aload_n (q := 53) dX9_turningAt_52 rfl rfl ?_
    refine m_get (q := 56) hM 6 fwX9_19 (by decide) dX9_turningAt_53 rfl rfl ?_
    refine xn_iconst (q := 57) 2 dX9_turningAt_56 rfl (by decide) ?_
    refine x_iload_n (q := 58) dX9_turningAt_57 rfl rfl ?_
    refine xn_imul (q := 59) dX9_turningAt_58 rfl ?_
    refine xn_iconst (q := 60) 1 dX9_turningAt_59 rfl (by decide) ?_
    refine xn_isub (q := 61) dX9_turningAt_60 rfl (by omega) ?_
    refine m_zald (q := 62) hM (n := 6) (by decide) dX9_turningAt_61 rfl (by omega) ?_
    rw [(onlyTC.rfl').2.1, hHl, hl]
    refine x_if_eq (q := 65) 83 dX9_turningAt_62 (by decide) rfl (fun hc62 => absurd hc62 (by decide)) (fun hc62 => ?_)
    refine x_aload_n (q := 66) dX9_turningAt_65 rfl rfl ?_
    refine x_iload_n (q := 67) dX9_turningAt_66 rfl rfl ?_
    refine xn_iconst (q := 68) 1 dX9_turningAt_67 rfl (by decide) ?_
    refine xn_isub (q := 69) dX9_turningAt_68 rfl (by omega) ?_
    refine xn_lconst (q := 70) 1 dX9_turningAt_69 rfl (by decide) ?_
    refine m_call (q := 73) (As := [_, _]) hM imX9_rightMoment ivX9_rightMoment ilX9_rightMoment mwX9_178 xciX9 dX9_turningAt_70 rfl rfl rfl (Nat.le_of_ble_eq_true rfl) ?_
    refine (c_rightMoment G l o as M0 N S d σ c (r) (node - 1) _ _ 1 rfl ((onlyTC.rfl').cf hc) hr (by omega) (by omega) hT).mono (fun x σc1 hp => ?_)
    obtain ⟨rfl, qc1, tc1⟩ := hp
    intro M hM
    have oc1 : onlyTC σ σc1 := (onlyTC.rfl').trans qc1.c
    have hrc1 : σc1.1 21 = nI (r) := by rw [qc1.1]; exact hr
    show xX G l _ (d + 3) _ _ _ [] M N S
    refine x_aload_n (q := 74) dX9_turningAt_73 rfl rfl ?_
    refine x_dup (q := 75) dX9_turningAt_74 rfl rfl ?_
    refine m_get (q := 78) hM 21 fwX9_139 (by decide) dX9_turningAt_75 rfl rfl ?_
    rw [hrc1]
    refine xn_iconst (q := 79) 1 dX9_turningAt_78 rfl (by decide) ?_
    refine xn_iadd (q := 80) dX9_turningAt_79 rfl ?_
    refine m_putG (q := 83) hM 21 fwX9_139 (by decide) rfl rfl rfl dX9_turningAt_80 rfl rfl rfl (fun M σ80 a80 e80 b80 hM => ?_)
    have o80 : onlyTC σ σ80 := (oc1).trans (onlyTC.inc a80 b80)
    have t80 := (tc1).same b80
    refine x_iload_n (q := 84) dX9_turningAt_83 rfl rfl ?_
    refine x_aload_n (q := 85) dX9_turningAt_84 rfl rfl ?_
    refine m_get (q := 88) hM 3 fwX9_93 (by decide) dX9_turningAt_85 rfl rfl ?_
    rw [(o80).1 3 (by decide), hm]
    refine xn_icmp_ge (q := 91) 122 dX9_turningAt_88 (by decide) rfl (by omega) (by omega) (fun hc88 => absurd hc88 (by omega)) (fun hc88 => ?_)
    refine x_aload_n (q := 92) dX9_turningAt_91 rfl rfl ?_
    refine m_get (q := 95) hM 6 fwX9_19 (by decide) dX9_turningAt_92 rfl rfl ?_
    refine xn_iconst (q := 96) 2 dX9_turningAt_95 rfl (by decide) ?_
    refine x_iload_n (q := 97) dX9_turningAt_96 rfl rfl ?_
    refine xn_imul (q := 98) dX9_turningAt_97 rfl ?_
    refine m_zald (q := 99) hM (n := 6) (by decide) dX9_turningAt_98 rfl (by omega) ?_
    rw [(o80).2.1, hHr hR, hg]
    refine x_if_eq (q := 102) 122 dX9_turningAt_99 (by decide) rfl (fun hc99 => absurd hc99 (by decide)) (fun hc99 => ?_)
    refine x_aload_n (q := 103) dX9_turningAt_102 rfl rfl ?_
    refine xn_iconst (q := 104) 4 dX9_turningAt_103 rfl (by decide) ?_
    refine x_iload_n (q := 105) dX9_turningAt_104 rfl rfl ?_
    refine xn_imul (q := 106) dX9_turningAt_105 rfl ?_
    refine xn_iconst (q := 107) 2 dX9_turningAt_106 rfl (by decide) ?_
    refine xn_iadd (q := 108) dX9_turningAt_107 rfl ?_
    refine xn_lconst (q := 109) 1 dX9_turningAt_108 rfl (by decide) ?_
    refine m_call (q := 112) (As := [_, _]) hM imX9_term ivX9_term ilX9_term mwX9_149 xciX9 dX9_turningAt_109 rfl rfl rfl (Nat.le_of_ble_eq_true rfl) ?_
    refine (c_term G l o as M0 N S (d + 2) σ80 (r + 1) (4 * node + 2) _ _ (1) (by first | rfl | (simp only [lN_i', ← Int64.ofInt_mul, Int.natCast_mul]; rfl)) e80 (by omega) t80).mono (fun x σc2 hp => ?_)
    obtain ⟨rfl, qc2, tc2⟩ := hp
    intro M hM
    have oc2 : onlyTC σ σc2 := (o80).trans qc2.c
    have hrc2 : σc2.1 21 = nI (r + 1) := by rw [qc2.1]; exact e80
    show xX G l _ (d + 3) _ _ _ [] M N S
    refine x_aload_n (q := 113) dX9_turningAt_112 rfl rfl ?_
    refine x_dup (q := 114) dX9_turningAt_113 rfl rfl ?_
    refine m_get (q := 117) hM 21 fwX9_139 (by decide) dX9_turningAt_114 rfl rfl ?_
    rw [hrc2]
    refine xn_iconst (q := 118) 1 dX9_turningAt_117 rfl (by decide) ?_
    refine xn_iadd (q := 119) dX9_turningAt_118 rfl ?_
    refine m_putG (q := 122) hM 21 fwX9_139 (by decide) rfl rfl rfl dX9_turningAt_119 rfl rfl rfl (fun M σ119 a119 e119 b119 hM => ?_)
    have o119 : onlyTC σ σ119 := (oc2).trans (onlyTC.inc a119 b119)
    have t119 := (tc2).same b119
    refine x_iload_n (q := 123) dX9_turningAt_122 rfl rfl ?_
    refine xn_if_ne (q := 126) 131 dX9_turningAt_123 (by decide) rfl (by omega) (fun hc123 => absurd hc123 (by decide)) (fun hc123 => ?_)
    refine x_iload_n (q := 127) dX9_turningAt_126 rfl rfl ?_
    refine xn_if_ne (q := 130) 131 dX9_turningAt_127 (by decide) rfl (by omega) (fun hc127 => absurd hc127 (by decide)) (fun hc127 => ?_)
    refine x_vret rfl dX9_turningAt_130 (m_ret hM ⟨rfl, o119, ?_, ?_⟩)
    · simp only [turnP, h0, hR, hl, hg, hU, decide_true, decide_false, Bool.not_true, Bool.not_false, Bool.and_true, Bool.true_and, Bool.and_false, Bool.false_and, Bool.or_true, Bool.true_or, Bool.or_false, Bool.false_or, if_true, if_false, reduceIte, Bool.false_eq_true, Bool.true_eq_false]; exact t119
    · simp only [turnP, h0, hR, hl, hg, hU, decide_true, decide_false, Bool.not_true, Bool.not_false, Bool.and_true, Bool.true_and, Bool.and_false, Bool.false_and, Bool.or_true, Bool.true_or, Bool.or_false, Bool.false_or, if_true, if_false, reduceIte, Bool.false_eq_true, Bool.true_eq_false]; exact e119
  · refine x_iload_n (q := 1) dX9_turningAt_0 rfl rfl ?_
    refine xn_if_le (q := 4) 21 dX9_turningAt_1 (by decide) rfl (by omega) (fun hc1 => absurd hc1 (by omega)) (fun hc1 => ?_)
    refine x_aload_n (q := 5) dX9_turningAt_4 rfl rfl ?_
    refine m_get (q := 8) hM 6 fwX9_19 (by decide) dX9_turningAt_5 rfl rfl ?_
    refine xn_iconst (q := 9) 2 dX9_turningAt_8 rfl (by decide) ?_
    refine x_iload_n (q := 10) dX9_turningAt_9 rfl rfl ?_
    refine xn_imul (q := 11) dX9_turningAt_10 rfl ?_
    refine xn_iconst (q := 12) 1 dX9_turningAt_11 rfl (by decide) ?_
    refine xn_isub (q := 13) dX9_turningAt_12 rfl (by omega) ?_
    refine m_zald (q := 14) hM (n := 6) (by decide) dX9_turningAt_13 rfl (by omega) ?_
    rw [(onlyTC.rfl').2.1, hHl, hl]
    refine x_if_ne (q := 17) 21 dX9_turningAt_14 (by decide) rfl (fun hc14 => ?_) (fun hc14 => absurd hc14 (by decide))
    refine xn_iconst (q := 22) 0 dX9_turningAt_21 rfl (by decide) ?_
    refine x_istore_n (q := 23) (ls' := [(0, _), (1, _), (2, _)]) [1, 2, 0] dX9_turningAt_22 rfl (by decide) rfl ?_
    refine x_iload_n (q := 24) dX9_turningAt_23 rfl rfl ?_
    refine x_aload_n (q := 25) dX9_turningAt_24 rfl rfl ?_
    refine m_get (q := 28) hM 3 fwX9_93 (by decide) dX9_turningAt_25 rfl rfl ?_
    rw [(onlyTC.rfl').1 3 (by decide), hm]
    refine xn_icmp_ge (q := 31) 46 dX9_turningAt_28 (by decide) rfl (by omega) (by omega) (fun hc28 => absurd hc28 (by omega)) (fun hc28 => ?_)
    refine x_aload_n (q := 32) dX9_turningAt_31 rfl rfl ?_
    refine m_get (q := 35) hM 6 fwX9_19 (by decide) dX9_turningAt_32 rfl rfl ?_
    refine xn_iconst (q := 36) 2 dX9_turningAt_35 rfl (by decide) ?_
    refine x_iload_n (q := 37) dX9_turningAt_36 rfl rfl ?_
    refine xn_imul (q := 38) dX9_turningAt_37 rfl ?_
    refine m_zald (q := 39) hM (n := 6) (by decide) dX9_turningAt_38 rfl (by omega) ?_
    rw [(onlyTC.rfl').2.1, hHr hR, hg]
    refine x_if_ne (q := 42) 46 dX9_turningAt_39 (by decide) rfl (fun hc39 => ?_) (fun hc39 => absurd hc39 (by decide))
    refine xn_iconst (q := 47) 0 dX9_turningAt_46 rfl (by decide) ?_
    refine x_istore_n (q := 48) (ls' := [(0, _), (1, _), (2, _), (3, _)]) [1, 2, 3, 0] dX9_turningAt_47 rfl (by decide) rfl ?_
    refine x_iload_n (q := 49) dX9_turningAt_48 rfl rfl ?_
    refine xn_if_le (q := 52) 83 dX9_turningAt_49 (by decide) rfl (by omega) (fun hc49 => absurd hc49 (by omega)) (fun hc49 => ?_)
    refine x_aload_n (q := 53) dX9_turningAt_52 rfl rfl ?_
    refine m_get (q := 56) hM 6 fwX9_19 (by decide) dX9_turningAt_53 rfl rfl ?_
    refine xn_iconst (q := 57) 2 dX9_turningAt_56 rfl (by decide) ?_
    refine x_iload_n (q := 58) dX9_turningAt_57 rfl rfl ?_
    refine xn_imul (q := 59) dX9_turningAt_58 rfl ?_
    refine xn_iconst (q := 60) 1 dX9_turningAt_59 rfl (by decide) ?_
    refine xn_isub (q := 61) dX9_turningAt_60 rfl (by omega) ?_
    refine m_zald (q := 62) hM (n := 6) (by decide) dX9_turningAt_61 rfl (by omega) ?_
    rw [(onlyTC.rfl').2.1, hHl, hl]
    refine x_if_eq (q := 65) 83 dX9_turningAt_62 (by decide) rfl (fun hc62 => absurd hc62 (by decide)) (fun hc62 => ?_)
    refine x_aload_n (q := 66) dX9_turningAt_65 rfl rfl ?_
    refine x_iload_n (q := 67) dX9_turningAt_66 rfl rfl ?_
    refine xn_iconst (q := 68) 1 dX9_turningAt_67 rfl (by decide) ?_
    refine xn_isub (q := 69) dX9_turningAt_68 rfl (by omega) ?_
    refine xn_lconst (q := 70) 1 dX9_turningAt_69 rfl (by decide) ?_
    refine m_call (q := 73) (As := [_, _]) hM imX9_rightMoment ivX9_rightMoment ilX9_rightMoment mwX9_178 xciX9 dX9_turningAt_70 rfl rfl rfl (Nat.le_of_ble_eq_true rfl) ?_
    refine (c_rightMoment G l o as M0 N S d σ c (r) (node - 1) _ _ 1 rfl ((onlyTC.rfl').cf hc) hr (by omega) (by omega) hT).mono (fun x σc1 hp => ?_)
    obtain ⟨rfl, qc1, tc1⟩ := hp
    intro M hM
    have oc1 : onlyTC σ σc1 := (onlyTC.rfl').trans qc1.c
    have hrc1 : σc1.1 21 = nI (r) := by rw [qc1.1]; exact hr
    show xX G l _ (d + 3) _ _ _ [] M N S
    refine x_aload_n (q := 74) dX9_turningAt_73 rfl rfl ?_
    refine x_dup (q := 75) dX9_turningAt_74 rfl rfl ?_
    refine m_get (q := 78) hM 21 fwX9_139 (by decide) dX9_turningAt_75 rfl rfl ?_
    rw [hrc1]
    refine xn_iconst (q := 79) 1 dX9_turningAt_78 rfl (by decide) ?_
    refine xn_iadd (q := 80) dX9_turningAt_79 rfl ?_
    refine m_putG (q := 83) hM 21 fwX9_139 (by decide) rfl rfl rfl dX9_turningAt_80 rfl rfl rfl (fun M σ80 a80 e80 b80 hM => ?_)
    have o80 : onlyTC σ σ80 := (oc1).trans (onlyTC.inc a80 b80)
    have t80 := (tc1).same b80
    refine x_iload_n (q := 84) dX9_turningAt_83 rfl rfl ?_
    refine x_aload_n (q := 85) dX9_turningAt_84 rfl rfl ?_
    refine m_get (q := 88) hM 3 fwX9_93 (by decide) dX9_turningAt_85 rfl rfl ?_
    rw [(o80).1 3 (by decide), hm]
    refine xn_icmp_ge (q := 91) 122 dX9_turningAt_88 (by decide) rfl (by omega) (by omega) (fun hc88 => absurd hc88 (by omega)) (fun hc88 => ?_)
    refine x_aload_n (q := 92) dX9_turningAt_91 rfl rfl ?_
    refine m_get (q := 95) hM 6 fwX9_19 (by decide) dX9_turningAt_92 rfl rfl ?_
    refine xn_iconst (q := 96) 2 dX9_turningAt_95 rfl (by decide) ?_
    refine x_iload_n (q := 97) dX9_turningAt_96 rfl rfl ?_
    refine xn_imul (q := 98) dX9_turningAt_97 rfl ?_
    refine m_zald (q := 99) hM (n := 6) (by decide) dX9_turningAt_98 rfl (by omega) ?_
    rw [(o80).2.1, hHr hR, hg]
    refine x_if_eq (q := 102) 122 dX9_turningAt_99 (by decide) rfl (fun hc99 => absurd hc99 (by decide)) (fun hc99 => ?_)
    refine x_aload_n (q := 103) dX9_turningAt_102 rfl rfl ?_
    refine xn_iconst (q := 104) 4 dX9_turningAt_103 rfl (by decide) ?_
    refine x_iload_n (q := 105) dX9_turningAt_104 rfl rfl ?_
    refine xn_imul (q := 106) dX9_turningAt_105 rfl ?_
    refine xn_iconst (q := 107) 2 dX9_turningAt_106 rfl (by decide) ?_
    refine xn_iadd (q := 108) dX9_turningAt_107 rfl ?_
    refine xn_lconst (q := 109) 1 dX9_turningAt_108 rfl (by decide) ?_
    refine m_call (q := 112) (As := [_, _]) hM imX9_term ivX9_term ilX9_term mwX9_149 xciX9 dX9_turningAt_109 rfl rfl rfl (Nat.le_of_ble_eq_true rfl) ?_
    refine (c_term G l o as M0 N S (d + 2) σ80 (r + 1) (4 * node + 2) _ _ (1) (by first | rfl | (simp only [lN_i', ← Int64.ofInt_mul, Int.natCast_mul]; rfl)) e80 (by omega) t80).mono (fun x σc2 hp => ?_)
    obtain ⟨rfl, qc2, tc2⟩ := hp
    intro M hM
    have oc2 : onlyTC σ σc2 := (o80).trans qc2.c
    have hrc2 : σc2.1 21 = nI (r + 1) := by rw [qc2.1]; exact e80
    show xX G l _ (d + 3) _ _ _ [] M N S
    refine x_aload_n (q := 113) dX9_turningAt_112 rfl rfl ?_
    refine x_dup (q := 114) dX9_turningAt_113 rfl rfl ?_
    refine m_get (q := 117) hM 21 fwX9_139 (by decide) dX9_turningAt_114 rfl rfl ?_
    rw [hrc2]
    refine xn_iconst (q := 118) 1 dX9_turningAt_117 rfl (by decide) ?_
    refine xn_iadd (q := 119) dX9_turningAt_118 rfl ?_
    refine m_putG (q := 122) hM 21 fwX9_139 (by decide) rfl rfl rfl dX9_turningAt_119 rfl rfl rfl (fun M σ119 a119 e119 b119 hM => ?_)
    have o119 : onlyTC σ σ119 := (oc2).trans (onlyTC.inc a119 b119)
    have t119 := (tc2).same b119
    refine x_iload_n (q := 123) dX9_turningAt_122 rfl rfl ?_
    refine xn_if_ne (q := 126) 131 dX9_turningAt_123 (by decide) rfl (by omega) (fun hc123 => absurd hc123 (by decide)) (fun hc123 => ?_)
    refine x_iload_n (q := 127) dX9_turningAt_126 rfl rfl ?_
    refine xn_if_ne (q := 130) 131 dX9_turningAt_127 (by decide) rfl (by omega) (fun hc127 => absurd hc127 (by decide)) (fun hc127 => ?_)
    refine x_vret rfl dX9_turningAt_130 (m_ret hM ⟨rfl, o119, ?_, ?_⟩)
    · simp only [turnP, h0, hR, hl, hg, hU, decide_true, decide_false, Bool.not_true, Bool.not_false, Bool.and_true, Bool.true_and, Bool.and_false, Bool.false_and, Bool.or_true, Bool.true_or, Bool.or_false, Bool.false_or, if_true, if_false, reduceIte, Bool.false_eq_true, Bool.true_eq_false]; exact t119
    · simp only [turnP, h0, hR, hl, hg, hU, decide_true, decide_false, Bool.not_true, Bool.not_false, Bool.and_true, Bool.true_and, Bool.and_false, Bool.false_and, Bool.or_true, Bool.true_or, Bool.or_false, Bool.false_or, if_true, if_false, reduceIte, Bool.false_eq_true, Bool.true_eq_false]; exact e119
  · refine x_iload_n (q := 1) dX9_turningAt_0 rfl rfl ?_
    refine xn_if_le (q := 4) 21 dX9_turningAt_1 (by decide) rfl (by omega) (fun hc1 => absurd hc1 (by omega)) (fun hc1 => ?_)
    refine x_aload_n (q := 5) dX9_turningAt_4 rfl rfl ?_
    refine m_get (q := 8) hM 6 fwX9_19 (by decide) dX9_turningAt_5 rfl rfl ?_
    refine xn_iconst (q := 9) 2 dX9_turningAt_8 rfl (by decide) ?_
    refine x_iload_n (q := 10) dX9_turningAt_9 rfl rfl ?_
    refine xn_imul (q := 11) dX9_turningAt_10 rfl ?_
    refine xn_iconst (q := 12) 1 dX9_turningAt_11 rfl (by decide) ?_
    refine xn_isub (q := 13) dX9_turningAt_12 rfl (by omega) ?_
    refine m_zald (q := 14) hM (n := 6) (by decide) dX9_turningAt_13 rfl (by omega) ?_
    rw [(onlyTC.rfl').2.1, hHl, hl]
    refine x_if_ne (q := 17) 21 dX9_turningAt_14 (by decide) rfl (fun hc14 => absurd hc14 (by decide)) (fun hc14 => ?_)
    refine xn_iconst (q := 18) 1 dX9_turningAt_17 rfl (by decide) ?_
    refine x_goto 22 dX9_turningAt_18 (by decide) ?_
    refine x_istore_n (q := 23) (ls' := [(0, _), (1, _), (2, _)]) [1, 2, 0] dX9_turningAt_22 rfl (by decide) rfl ?_
    refine x_iload_n (q := 24) dX9_turningAt_23 rfl rfl ?_
    refine x_aload_n (q := 25) dX9_turningAt_24 rfl rfl ?_
    refine m_get (q := 28) hM 3 fwX9_93 (by decide) dX9_turningAt_25 rfl rfl ?_
    rw [(onlyTC.rfl').1 3 (by decide), hm]
    refine xn_icmp_ge (q := 31) 46 dX9_turningAt_28 (by decide) rfl (by omega) (by omega) (fun hc28 => ?_) (fun hc28 => absurd hc28 (by omega))
    refine xn_iconst (q := 47) 0 dX9_turningAt_46 rfl (by decide) ?_
    refine x_istore_n (q := 48) (ls' := [(0, _), (1, _), (2, _), (3, _)]) [1, 2, 3, 0] dX9_turningAt_47 rfl (by decide) rfl ?_
    refine x_iload_n (q := 49) dX9_turningAt_48 rfl rfl ?_
    refine xn_if_le (q := 52) 83 dX9_turningAt_49 (by decide) rfl (by omega) (fun hc49 => absurd hc49 (by omega)) (fun hc49 => ?_)
    refine x_aload_n (q := 53) dX9_turningAt_52 rfl rfl ?_
    refine m_get (q := 56) hM 6 fwX9_19 (by decide) dX9_turningAt_53 rfl rfl ?_
    refine xn_iconst (q := 57) 2 dX9_turningAt_56 rfl (by decide) ?_
    refine x_iload_n (q := 58) dX9_turningAt_57 rfl rfl ?_
    refine xn_imul (q := 59) dX9_turningAt_58 rfl ?_
    refine xn_iconst (q := 60) 1 dX9_turningAt_59 rfl (by decide) ?_
    refine xn_isub (q := 61) dX9_turningAt_60 rfl (by omega) ?_
    refine m_zald (q := 62) hM (n := 6) (by decide) dX9_turningAt_61 rfl (by omega) ?_
    rw [(onlyTC.rfl').2.1, hHl, hl]
    refine x_if_eq (q := 65) 83 dX9_turningAt_62 (by decide) rfl (fun hc62 => ?_) (fun hc62 => absurd (by decide) hc62)
    refine x_iload_n (q := 84) dX9_turningAt_83 rfl rfl ?_
    refine x_aload_n (q := 85) dX9_turningAt_84 rfl rfl ?_
    refine m_get (q := 88) hM 3 fwX9_93 (by decide) dX9_turningAt_85 rfl rfl ?_
    rw [(onlyTC.rfl').1 3 (by decide), hm]
    refine xn_icmp_ge (q := 91) 122 dX9_turningAt_88 (by decide) rfl (by omega) (by omega) (fun hc88 => ?_) (fun hc88 => absurd hc88 (by omega))
    refine x_iload_n (q := 123) dX9_turningAt_122 rfl rfl ?_
    refine xn_if_ne (q := 126) 131 dX9_turningAt_123 (by decide) rfl (by omega) (fun hc123 => ?_) (fun hc123 => absurd hc123 (by decide))
    refine x_aload_n (q := 132) dX9_turningAt_131 rfl rfl ?_
    refine m_get (q := 135) hM 8 fwX9_26 (by decide) dX9_turningAt_132 rfl rfl ?_
    refine x_iload_n (q := 136) dX9_turningAt_135 rfl rfl ?_
    refine m_zald (q := 137) hM (n := 4) (by decide) dX9_turningAt_136 rfl (by omega) ?_
    rw [(onlyTC.rfl').2.1, hTn, hU]
    refine x_if_eq (q := 140) 186 dX9_turningAt_137 (by decide) rfl (fun hc137 => ?_) (fun hc137 => absurd (by decide) hc137)
    refine x_iload_n (q := 187) dX9_turningAt_186 rfl rfl ?_
    refine xn_if_eq (q := 190) 233 dX9_turningAt_187 (by decide) rfl (by omega) (fun hc187 => absurd hc187 (by decide)) (fun hc187 => ?_)
    refine x_iload_n (q := 191) dX9_turningAt_190 rfl rfl ?_
    refine xn_if_eq (q := 194) 233 dX9_turningAt_191 (by decide) rfl (by omega) (fun hc191 => ?_) (fun hc191 => absurd hc191 (by decide))
    refine x_iload_n (q := 234) dX9_turningAt_233 rfl rfl ?_
    refine xn_if_eq (q := 237) 245 dX9_turningAt_234 (by decide) rfl (by omega) (fun hc234 => absurd hc234 (by decide)) (fun hc234 => ?_)
    refine x_aload_n (q := 238) dX9_turningAt_237 rfl rfl ?_
    refine x_iload_n (q := 239) dX9_turningAt_238 rfl rfl ?_
    refine xn_iconst (q := 240) 1 dX9_turningAt_239 rfl (by decide) ?_
    refine xn_isub (q := 241) dX9_turningAt_240 rfl (by omega) ?_
    refine xn_lconst (q := 242) 1 dX9_turningAt_241 rfl (by decide) ?_
    refine m_call (q := 245) (As := [_, _]) hM imX9_rightMoment ivX9_rightMoment ilX9_rightMoment mwX9_178 xciX9 dX9_turningAt_242 rfl rfl rfl (Nat.le_of_ble_eq_true rfl) ?_
    refine (c_rightMoment G l o as M0 N S d σ c (r) (node - 1) _ _ 1 rfl ((onlyTC.rfl').cf hc) hr (by omega) (by omega) hT).mono (fun x σc1 hp => ?_)
    obtain ⟨rfl, qc1, tc1⟩ := hp
    intro M hM
    have oc1 : onlyTC σ σc1 := (onlyTC.rfl').trans qc1.c
    have hrc1 : σc1.1 21 = nI (r) := by rw [qc1.1]; exact hr
    show xX G l _ (d + 3) _ _ _ [] M N S
    refine x_iload_n (q := 246) dX9_turningAt_245 rfl rfl ?_
    refine xn_if_eq (q := 249) 261 dX9_turningAt_246 (by decide) rfl (by omega) (fun hc246 => ?_) (fun hc246 => absurd hc246 (by decide))
    refine x_aload_n (q := 262) dX9_turningAt_261 rfl rfl ?_
    refine x_dup (q := 263) dX9_turningAt_262 rfl rfl ?_
    refine m_get (q := 266) hM 21 fwX9_139 (by decide) dX9_turningAt_263 rfl rfl ?_
    rw [hrc1]
    refine xn_iconst (q := 267) 1 dX9_turningAt_266 rfl (by decide) ?_
    refine xn_iadd (q := 268) dX9_turningAt_267 rfl ?_
    refine m_putG (q := 271) hM 21 fwX9_139 (by decide) rfl rfl rfl dX9_turningAt_268 rfl rfl rfl (fun M σ268 a268 e268 b268 hM => ?_)
    have o268 : onlyTC σ σ268 := (oc1).trans (onlyTC.inc a268 b268)
    have t268 := (tc1).same b268
    refine x_vret rfl dX9_turningAt_271 (m_ret hM ⟨rfl, o268, ?_, ?_⟩)
    · simp only [turnP, h0, hR, hl, hg, hU, decide_true, decide_false, Bool.not_true, Bool.not_false, Bool.and_true, Bool.true_and, Bool.and_false, Bool.false_and, Bool.or_true, Bool.true_or, Bool.or_false, Bool.false_or, if_true, if_false, reduceIte, Bool.false_eq_true, Bool.true_eq_false]; exact t268
    · simp only [turnP, h0, hR, hl, hg, hU, decide_true, decide_false, Bool.not_true, Bool.not_false, Bool.and_true, Bool.true_and, Bool.and_false, Bool.false_and, Bool.or_true, Bool.true_or, Bool.or_false, Bool.false_or, if_true, if_false, reduceIte, Bool.false_eq_true, Bool.true_eq_false]; exact e268
  · refine x_iload_n (q := 1) dX9_turningAt_0 rfl rfl ?_
    refine xn_if_le (q := 4) 21 dX9_turningAt_1 (by decide) rfl (by omega) (fun hc1 => absurd hc1 (by omega)) (fun hc1 => ?_)
    refine x_aload_n (q := 5) dX9_turningAt_4 rfl rfl ?_
    refine m_get (q := 8) hM 6 fwX9_19 (by decide) dX9_turningAt_5 rfl rfl ?_
    refine xn_iconst (q := 9) 2 dX9_turningAt_8 rfl (by decide) ?_
    refine x_iload_n (q := 10) dX9_turningAt_9 rfl rfl ?_
    refine xn_imul (q := 11) dX9_turningAt_10 rfl ?_
    refine xn_iconst (q := 12) 1 dX9_turningAt_11 rfl (by decide) ?_
    refine xn_isub (q := 13) dX9_turningAt_12 rfl (by omega) ?_
    refine m_zald (q := 14) hM (n := 6) (by decide) dX9_turningAt_13 rfl (by omega) ?_
    rw [(onlyTC.rfl').2.1, hHl, hl]
    refine x_if_ne (q := 17) 21 dX9_turningAt_14 (by decide) rfl (fun hc14 => absurd hc14 (by decide)) (fun hc14 => ?_)
    refine xn_iconst (q := 18) 1 dX9_turningAt_17 rfl (by decide) ?_
    refine x_goto 22 dX9_turningAt_18 (by decide) ?_
    refine x_istore_n (q := 23) (ls' := [(0, _), (1, _), (2, _)]) [1, 2, 0] dX9_turningAt_22 rfl (by decide) rfl ?_
    refine x_iload_n (q := 24) dX9_turningAt_23 rfl rfl ?_
    refine x_aload_n (q := 25) dX9_turningAt_24 rfl rfl ?_
    refine m_get (q := 28) hM 3 fwX9_93 (by decide) dX9_turningAt_25 rfl rfl ?_
    rw [(onlyTC.rfl').1 3 (by decide), hm]
    refine xn_icmp_ge (q := 31) 46 dX9_turningAt_28 (by decide) rfl (by omega) (by omega) (fun hc28 => ?_) (fun hc28 => absurd hc28 (by omega))
    refine xn_iconst (q := 47) 0 dX9_turningAt_46 rfl (by decide) ?_
    refine x_istore_n (q := 48) (ls' := [(0, _), (1, _), (2, _), (3, _)]) [1, 2, 3, 0] dX9_turningAt_47 rfl (by decide) rfl ?_
    refine x_iload_n (q := 49) dX9_turningAt_48 rfl rfl ?_
    refine xn_if_le (q := 52) 83 dX9_turningAt_49 (by decide) rfl (by omega) (fun hc49 => absurd hc49 (by omega)) (fun hc49 => ?_)
    refine x_aload_n (q := 53) dX9_turningAt_52 rfl rfl ?_
    refine m_get (q := 56) hM 6 fwX9_19 (by decide) dX9_turningAt_53 rfl rfl ?_
    refine xn_iconst (q := 57) 2 dX9_turningAt_56 rfl (by decide) ?_
    refine x_iload_n (q := 58) dX9_turningAt_57 rfl rfl ?_
    refine xn_imul (q := 59) dX9_turningAt_58 rfl ?_
    refine xn_iconst (q := 60) 1 dX9_turningAt_59 rfl (by decide) ?_
    refine xn_isub (q := 61) dX9_turningAt_60 rfl (by omega) ?_
    refine m_zald (q := 62) hM (n := 6) (by decide) dX9_turningAt_61 rfl (by omega) ?_
    rw [(onlyTC.rfl').2.1, hHl, hl]
    refine x_if_eq (q := 65) 83 dX9_turningAt_62 (by decide) rfl (fun hc62 => ?_) (fun hc62 => absurd (by decide) hc62)
    refine x_iload_n (q := 84) dX9_turningAt_83 rfl rfl ?_
    refine x_aload_n (q := 85) dX9_turningAt_84 rfl rfl ?_
    refine m_get (q := 88) hM 3 fwX9_93 (by decide) dX9_turningAt_85 rfl rfl ?_
    rw [(onlyTC.rfl').1 3 (by decide), hm]
    refine xn_icmp_ge (q := 91) 122 dX9_turningAt_88 (by decide) rfl (by omega) (by omega) (fun hc88 => ?_) (fun hc88 => absurd hc88 (by omega))
    refine x_iload_n (q := 123) dX9_turningAt_122 rfl rfl ?_
    refine xn_if_ne (q := 126) 131 dX9_turningAt_123 (by decide) rfl (by omega) (fun hc123 => ?_) (fun hc123 => absurd hc123 (by decide))
    refine x_aload_n (q := 132) dX9_turningAt_131 rfl rfl ?_
    refine m_get (q := 135) hM 8 fwX9_26 (by decide) dX9_turningAt_132 rfl rfl ?_
    refine x_iload_n (q := 136) dX9_turningAt_135 rfl rfl ?_
    refine m_zald (q := 137) hM (n := 4) (by decide) dX9_turningAt_136 rfl (by omega) ?_
    rw [(onlyTC.rfl').2.1, hTn, hU]
    refine x_if_eq (q := 140) 186 dX9_turningAt_137 (by decide) rfl (fun hc137 => absurd hc137 (by decide)) (fun hc137 => ?_)
    refine x_iload_n (q := 141) dX9_turningAt_140 rfl rfl ?_
    refine xn_if_eq (q := 144) 161 dX9_turningAt_141 (by decide) rfl (by omega) (fun hc141 => absurd hc141 (by decide)) (fun hc141 => ?_)
    refine x_aload_n (q := 145) dX9_turningAt_144 rfl rfl ?_
    refine x_iload_n (q := 146) dX9_turningAt_145 rfl rfl ?_
    refine xn_iconst (q := 147) 1 dX9_turningAt_146 rfl (by decide) ?_
    refine xn_isub (q := 148) dX9_turningAt_147 rfl (by omega) ?_
    refine m_call (q := 151) (As := [_]) hM imX9_rightTurn ivX9_rightTurn ilX9_rightTurn mwX9_181 xciX9 dX9_turningAt_148 rfl rfl rfl (Nat.le_of_ble_eq_true rfl) ?_
    refine (c_rightTurn G l o as M0 N S d σ c (r) (node - 1) _ ((onlyTC.rfl').cf hc) hr (by omega) (by omega) hT).mono (fun x σc1 hp => ?_)
    obtain ⟨rfl, qc1, tc1⟩ := hp
    intro M hM
    have oc1 : onlyTC σ σc1 := (onlyTC.rfl').trans qc1.c
    have hrc1 : σc1.1 21 = nI (r) := by rw [qc1.1]; exact hr
    show xX G l _ (d + 3) _ _ _ [] M N S
    refine x_aload_n (q := 152) dX9_turningAt_151 rfl rfl ?_
    refine x_dup (q := 153) dX9_turningAt_152 rfl rfl ?_
    refine m_get (q := 156) hM 21 fwX9_139 (by decide) dX9_turningAt_153 rfl rfl ?_
    rw [hrc1]
    refine xn_iconst (q := 157) 1 dX9_turningAt_156 rfl (by decide) ?_
    refine xn_iadd (q := 158) dX9_turningAt_157 rfl ?_
    refine m_putG (q := 161) hM 21 fwX9_139 (by decide) rfl rfl rfl dX9_turningAt_158 rfl rfl rfl (fun M σ158 a158 e158 b158 hM => ?_)
    have o158 : onlyTC σ σ158 := (oc1).trans (onlyTC.inc a158 b158)
    have t158 := (tc1).same b158
    refine x_iload_n (q := 162) dX9_turningAt_161 rfl rfl ?_
    refine xn_if_eq (q := 165) 185 dX9_turningAt_162 (by decide) rfl (by omega) (fun hc162 => ?_) (fun hc162 => absurd hc162 (by decide))
    refine x_vret rfl dX9_turningAt_185 (m_ret hM ⟨rfl, o158, ?_, ?_⟩)
    · simp only [turnP, h0, hR, hl, hg, hU, decide_true, decide_false, Bool.not_true, Bool.not_false, Bool.and_true, Bool.true_and, Bool.and_false, Bool.false_and, Bool.or_true, Bool.true_or, Bool.or_false, Bool.false_or, if_true, if_false, reduceIte, Bool.false_eq_true, Bool.true_eq_false]; exact t158
    · simp only [turnP, h0, hR, hl, hg, hU, decide_true, decide_false, Bool.not_true, Bool.not_false, Bool.and_true, Bool.true_and, Bool.and_false, Bool.false_and, Bool.or_true, Bool.true_or, Bool.or_false, Bool.false_or, if_true, if_false, reduceIte, Bool.false_eq_true, Bool.true_eq_false]; exact e158
  · refine x_iload_n (q := 1) dX9_turningAt_0 rfl rfl ?_
    refine xn_if_le (q := 4) 21 dX9_turningAt_1 (by decide) rfl (by omega) (fun hc1 => absurd hc1 (by omega)) (fun hc1 => ?_)
    refine x_aload_n (q := 5) dX9_turningAt_4 rfl rfl ?_
    refine m_get (q := 8) hM 6 fwX9_19 (by decide) dX9_turningAt_5 rfl rfl ?_
    refine xn_iconst (q := 9) 2 dX9_turningAt_8 rfl (by decide) ?_
    refine x_iload_n (q := 10) dX9_turningAt_9 rfl rfl ?_
    refine xn_imul (q := 11) dX9_turningAt_10 rfl ?_
    refine xn_iconst (q := 12) 1 dX9_turningAt_11 rfl (by decide) ?_
    refine xn_isub (q := 13) dX9_turningAt_12 rfl (by omega) ?_
    refine m_zald (q := 14) hM (n := 6) (by decide) dX9_turningAt_13 rfl (by omega) ?_
    rw [(onlyTC.rfl').2.1, hHl, hl]
    refine x_if_ne (q := 17) 21 dX9_turningAt_14 (by decide) rfl (fun hc14 => absurd hc14 (by decide)) (fun hc14 => ?_)
    refine xn_iconst (q := 18) 1 dX9_turningAt_17 rfl (by decide) ?_
    refine x_goto 22 dX9_turningAt_18 (by decide) ?_
    refine x_istore_n (q := 23) (ls' := [(0, _), (1, _), (2, _)]) [1, 2, 0] dX9_turningAt_22 rfl (by decide) rfl ?_
    refine x_iload_n (q := 24) dX9_turningAt_23 rfl rfl ?_
    refine x_aload_n (q := 25) dX9_turningAt_24 rfl rfl ?_
    refine m_get (q := 28) hM 3 fwX9_93 (by decide) dX9_turningAt_25 rfl rfl ?_
    rw [(onlyTC.rfl').1 3 (by decide), hm]
    refine xn_icmp_ge (q := 31) 46 dX9_turningAt_28 (by decide) rfl (by omega) (by omega) (fun hc28 => ?_) (fun hc28 => absurd hc28 (by omega))
    refine xn_iconst (q := 47) 0 dX9_turningAt_46 rfl (by decide) ?_
    refine x_istore_n (q := 48) (ls' := [(0, _), (1, _), (2, _), (3, _)]) [1, 2, 3, 0] dX9_turningAt_47 rfl (by decide) rfl ?_
    refine x_iload_n (q := 49) dX9_turningAt_48 rfl rfl ?_
    refine xn_if_le (q := 52) 83 dX9_turningAt_49 (by decide) rfl (by omega) (fun hc49 => absurd hc49 (by omega)) (fun hc49 => ?_)
    refine x_aload_n (q := 53) dX9_turningAt_52 rfl rfl ?_
    refine m_get (q := 56) hM 6 fwX9_19 (by decide) dX9_turningAt_53 rfl rfl ?_
    refine xn_iconst (q := 57) 2 dX9_turningAt_56 rfl (by decide) ?_
    refine x_iload_n (q := 58) dX9_turningAt_57 rfl rfl ?_
    refine xn_imul (q := 59) dX9_turningAt_58 rfl ?_
    refine xn_iconst (q := 60) 1 dX9_turningAt_59 rfl (by decide) ?_
    refine xn_isub (q := 61) dX9_turningAt_60 rfl (by omega) ?_
    refine m_zald (q := 62) hM (n := 6) (by decide) dX9_turningAt_61 rfl (by omega) ?_
    rw [(onlyTC.rfl').2.1, hHl, hl]
    refine x_if_eq (q := 65) 83 dX9_turningAt_62 (by decide) rfl (fun hc62 => ?_) (fun hc62 => absurd (by decide) hc62)
    refine x_iload_n (q := 84) dX9_turningAt_83 rfl rfl ?_
    refine x_aload_n (q := 85) dX9_turningAt_84 rfl rfl ?_
    refine m_get (q := 88) hM 3 fwX9_93 (by decide) dX9_turningAt_85 rfl rfl ?_
    rw [(onlyTC.rfl').1 3 (by decide), hm]
    refine xn_icmp_ge (q := 91) 122 dX9_turningAt_88 (by decide) rfl (by omega) (by omega) (fun hc88 => ?_) (fun hc88 => absurd hc88 (by omega))
    refine x_iload_n (q := 123) dX9_turningAt_122 rfl rfl ?_
    refine xn_if_ne (q := 126) 131 dX9_turningAt_123 (by decide) rfl (by omega) (fun hc123 => ?_) (fun hc123 => absurd hc123 (by decide))
    refine x_aload_n (q := 132) dX9_turningAt_131 rfl rfl ?_
    refine m_get (q := 135) hM 8 fwX9_26 (by decide) dX9_turningAt_132 rfl rfl ?_
    refine x_iload_n (q := 136) dX9_turningAt_135 rfl rfl ?_
    refine m_zald (q := 137) hM (n := 4) (by decide) dX9_turningAt_136 rfl (by omega) ?_
    rw [(onlyTC.rfl').2.1, hTn, hU]
    refine x_if_eq (q := 140) 186 dX9_turningAt_137 (by decide) rfl (fun hc137 => ?_) (fun hc137 => absurd (by decide) hc137)
    refine x_iload_n (q := 187) dX9_turningAt_186 rfl rfl ?_
    refine xn_if_eq (q := 190) 233 dX9_turningAt_187 (by decide) rfl (by omega) (fun hc187 => absurd hc187 (by decide)) (fun hc187 => ?_)
    refine x_iload_n (q := 191) dX9_turningAt_190 rfl rfl ?_
    refine xn_if_eq (q := 194) 233 dX9_turningAt_191 (by decide) rfl (by omega) (fun hc191 => ?_) (fun hc191 => absurd hc191 (by decide))
    refine x_iload_n (q := 234) dX9_turningAt_233 rfl rfl ?_
    refine xn_if_eq (q := 237) 245 dX9_turningAt_234 (by decide) rfl (by omega) (fun hc234 => absurd hc234 (by decide)) (fun hc234 => ?_)
    refine x_aload_n (q := 238) dX9_turningAt_237 rfl rfl ?_
    refine x_iload_n (q := 239) dX9_turningAt_238 rfl rfl ?_
    refine xn_iconst (q := 240) 1 dX9_turningAt_239 rfl (by decide) ?_
    refine xn_isub (q := 241) dX9_turningAt_240 rfl (by omega) ?_
    refine xn_lconst (q := 242) 1 dX9_turningAt_241 rfl (by decide) ?_
    refine m_call (q := 245) (As := [_, _]) hM imX9_rightMoment ivX9_rightMoment ilX9_rightMoment mwX9_178 xciX9 dX9_turningAt_242 rfl rfl rfl (Nat.le_of_ble_eq_true rfl) ?_
    refine (c_rightMoment G l o as M0 N S d σ c (r) (node - 1) _ _ 1 rfl ((onlyTC.rfl').cf hc) hr (by omega) (by omega) hT).mono (fun x σc1 hp => ?_)
    obtain ⟨rfl, qc1, tc1⟩ := hp
    intro M hM
    have oc1 : onlyTC σ σc1 := (onlyTC.rfl').trans qc1.c
    have hrc1 : σc1.1 21 = nI (r) := by rw [qc1.1]; exact hr
    show xX G l _ (d + 3) _ _ _ [] M N S
    refine x_iload_n (q := 246) dX9_turningAt_245 rfl rfl ?_
    refine xn_if_eq (q := 249) 261 dX9_turningAt_246 (by decide) rfl (by omega) (fun hc246 => ?_) (fun hc246 => absurd hc246 (by decide))
    refine x_aload_n (q := 262) dX9_turningAt_261 rfl rfl ?_
    refine x_dup (q := 263) dX9_turningAt_262 rfl rfl ?_
    refine m_get (q := 266) hM 21 fwX9_139 (by decide) dX9_turningAt_263 rfl rfl ?_
    rw [hrc1]
    refine xn_iconst (q := 267) 1 dX9_turningAt_266 rfl (by decide) ?_
    refine xn_iadd (q := 268) dX9_turningAt_267 rfl ?_
    refine m_putG (q := 271) hM 21 fwX9_139 (by decide) rfl rfl rfl dX9_turningAt_268 rfl rfl rfl (fun M σ268 a268 e268 b268 hM => ?_)
    have o268 : onlyTC σ σ268 := (oc1).trans (onlyTC.inc a268 b268)
    have t268 := (tc1).same b268
    refine x_vret rfl dX9_turningAt_271 (m_ret hM ⟨rfl, o268, ?_, ?_⟩)
    · simp only [turnP, h0, hR, hl, hg, hU, decide_true, decide_false, Bool.not_true, Bool.not_false, Bool.and_true, Bool.true_and, Bool.and_false, Bool.false_and, Bool.or_true, Bool.true_or, Bool.or_false, Bool.false_or, if_true, if_false, reduceIte, Bool.false_eq_true, Bool.true_eq_false]; exact t268
    · simp only [turnP, h0, hR, hl, hg, hU, decide_true, decide_false, Bool.not_true, Bool.not_false, Bool.and_true, Bool.true_and, Bool.and_false, Bool.false_and, Bool.or_true, Bool.true_or, Bool.or_false, Bool.false_or, if_true, if_false, reduceIte, Bool.false_eq_true, Bool.true_eq_false]; exact e268
  · refine x_iload_n (q := 1) dX9_turningAt_0 rfl rfl ?_
    refine xn_if_le (q := 4) 21 dX9_turningAt_1 (by decide) rfl (by omega) (fun hc1 => absurd hc1 (by omega)) (fun hc1 => ?_)
    refine x_aload_n (q := 5) dX9_turningAt_4 rfl rfl ?_
    refine m_get (q := 8) hM 6 fwX9_19 (by decide) dX9_turningAt_5 rfl rfl ?_
    refine xn_iconst (q := 9) 2 dX9_turningAt_8 rfl (by decide) ?_
    refine x_iload_n (q := 10) dX9_turningAt_9 rfl rfl ?_
    refine xn_imul (q := 11) dX9_turningAt_10 rfl ?_
    refine xn_iconst (q := 12) 1 dX9_turningAt_11 rfl (by decide) ?_
    refine xn_isub (q := 13) dX9_turningAt_12 rfl (by omega) ?_
    refine m_zald (q := 14) hM (n := 6) (by decide) dX9_turningAt_13 rfl (by omega) ?_
    rw [(onlyTC.rfl').2.1, hHl, hl]
    refine x_if_ne (q := 17) 21 dX9_turningAt_14 (by decide) rfl (fun hc14 => absurd hc14 (by decide)) (fun hc14 => ?_)
    refine xn_iconst (q := 18) 1 dX9_turningAt_17 rfl (by decide) ?_
    refine x_goto 22 dX9_turningAt_18 (by decide) ?_
    refine x_istore_n (q := 23) (ls' := [(0, _), (1, _), (2, _)]) [1, 2, 0] dX9_turningAt_22 rfl (by decide) rfl ?_
    refine x_iload_n (q := 24) dX9_turningAt_23 rfl rfl ?_
    refine x_aload_n (q := 25) dX9_turningAt_24 rfl rfl ?_
    refine m_get (q := 28) hM 3 fwX9_93 (by decide) dX9_turningAt_25 rfl rfl ?_
    rw [(onlyTC.rfl').1 3 (by decide), hm]
    refine xn_icmp_ge (q := 31) 46 dX9_turningAt_28 (by decide) rfl (by omega) (by omega) (fun hc28 => ?_) (fun hc28 => absurd hc28 (by omega))
    refine xn_iconst (q := 47) 0 dX9_turningAt_46 rfl (by decide) ?_
    refine x_istore_n (q := 48) (ls' := [(0, _), (1, _), (2, _), (3, _)]) [1, 2, 3, 0] dX9_turningAt_47 rfl (by decide) rfl ?_
    refine x_iload_n (q := 49) dX9_turningAt_48 rfl rfl ?_
    refine xn_if_le (q := 52) 83 dX9_turningAt_49 (by decide) rfl (by omega) (fun hc49 => absurd hc49 (by omega)) (fun hc49 => ?_)
    refine x_aload_n (q := 53) dX9_turningAt_52 rfl rfl ?_
    refine m_get (q := 56) hM 6 fwX9_19 (by decide) dX9_turningAt_53 rfl rfl ?_
    refine xn_iconst (q := 57) 2 dX9_turningAt_56 rfl (by decide) ?_
    refine x_iload_n (q := 58) dX9_turningAt_57 rfl rfl ?_
    refine xn_imul (q := 59) dX9_turningAt_58 rfl ?_
    refine xn_iconst (q := 60) 1 dX9_turningAt_59 rfl (by decide) ?_
    refine xn_isub (q := 61) dX9_turningAt_60 rfl (by omega) ?_
    refine m_zald (q := 62) hM (n := 6) (by decide) dX9_turningAt_61 rfl (by omega) ?_
    rw [(onlyTC.rfl').2.1, hHl, hl]
    refine x_if_eq (q := 65) 83 dX9_turningAt_62 (by decide) rfl (fun hc62 => ?_) (fun hc62 => absurd (by decide) hc62)
    refine x_iload_n (q := 84) dX9_turningAt_83 rfl rfl ?_
    refine x_aload_n (q := 85) dX9_turningAt_84 rfl rfl ?_
    refine m_get (q := 88) hM 3 fwX9_93 (by decide) dX9_turningAt_85 rfl rfl ?_
    rw [(onlyTC.rfl').1 3 (by decide), hm]
    refine xn_icmp_ge (q := 91) 122 dX9_turningAt_88 (by decide) rfl (by omega) (by omega) (fun hc88 => ?_) (fun hc88 => absurd hc88 (by omega))
    refine x_iload_n (q := 123) dX9_turningAt_122 rfl rfl ?_
    refine xn_if_ne (q := 126) 131 dX9_turningAt_123 (by decide) rfl (by omega) (fun hc123 => ?_) (fun hc123 => absurd hc123 (by decide))
    refine x_aload_n (q := 132) dX9_turningAt_131 rfl rfl ?_
    refine m_get (q := 135) hM 8 fwX9_26 (by decide) dX9_turningAt_132 rfl rfl ?_
    refine x_iload_n (q := 136) dX9_turningAt_135 rfl rfl ?_
    refine m_zald (q := 137) hM (n := 4) (by decide) dX9_turningAt_136 rfl (by omega) ?_
    rw [(onlyTC.rfl').2.1, hTn, hU]
    refine x_if_eq (q := 140) 186 dX9_turningAt_137 (by decide) rfl (fun hc137 => absurd hc137 (by decide)) (fun hc137 => ?_)
    refine x_iload_n (q := 141) dX9_turningAt_140 rfl rfl ?_
    refine xn_if_eq (q := 144) 161 dX9_turningAt_141 (by decide) rfl (by omega) (fun hc141 => absurd hc141 (by decide)) (fun hc141 => ?_)
    refine x_aload_n (q := 145) dX9_turningAt_144 rfl rfl ?_
    refine x_iload_n (q := 146) dX9_turningAt_145 rfl rfl ?_
    refine xn_iconst (q := 147) 1 dX9_turningAt_146 rfl (by decide) ?_
    refine xn_isub (q := 148) dX9_turningAt_147 rfl (by omega) ?_
    refine m_call (q := 151) (As := [_]) hM imX9_rightTurn ivX9_rightTurn ilX9_rightTurn mwX9_181 xciX9 dX9_turningAt_148 rfl rfl rfl (Nat.le_of_ble_eq_true rfl) ?_
    refine (c_rightTurn G l o as M0 N S d σ c (r) (node - 1) _ ((onlyTC.rfl').cf hc) hr (by omega) (by omega) hT).mono (fun x σc1 hp => ?_)
    obtain ⟨rfl, qc1, tc1⟩ := hp
    intro M hM
    have oc1 : onlyTC σ σc1 := (onlyTC.rfl').trans qc1.c
    have hrc1 : σc1.1 21 = nI (r) := by rw [qc1.1]; exact hr
    show xX G l _ (d + 3) _ _ _ [] M N S
    refine x_aload_n (q := 152) dX9_turningAt_151 rfl rfl ?_
    refine x_dup (q := 153) dX9_turningAt_152 rfl rfl ?_
    refine m_get (q := 156) hM 21 fwX9_139 (by decide) dX9_turningAt_153 rfl rfl ?_
    rw [hrc1]
    refine xn_iconst (q := 157) 1 dX9_turningAt_156 rfl (by decide) ?_
    refine xn_iadd (q := 158) dX9_turningAt_157 rfl ?_
    refine m_putG (q := 161) hM 21 fwX9_139 (by decide) rfl rfl rfl dX9_turningAt_158 rfl rfl rfl (fun M σ158 a158 e158 b158 hM => ?_)
    have o158 : onlyTC σ σ158 := (oc1).trans (onlyTC.inc a158 b158)
    have t158 := (tc1).same b158
    refine x_iload_n (q := 162) dX9_turningAt_161 rfl rfl ?_
    refine xn_if_eq (q := 165) 185 dX9_turningAt_162 (by decide) rfl (by omega) (fun hc162 => ?_) (fun hc162 => absurd hc162 (by decide))
    refine x_vret rfl dX9_turningAt_185 (m_ret hM ⟨rfl, o158, ?_, ?_⟩)
    · simp only [turnP, h0, hR, hl, hg, hU, decide_true, decide_false, Bool.not_true, Bool.not_false, Bool.and_true, Bool.true_and, Bool.and_false, Bool.false_and, Bool.or_true, Bool.true_or, Bool.or_false, Bool.false_or, if_true, if_false, reduceIte, Bool.false_eq_true, Bool.true_eq_false]; exact t158
    · simp only [turnP, h0, hR, hl, hg, hU, decide_true, decide_false, Bool.not_true, Bool.not_false, Bool.and_true, Bool.true_and, Bool.and_false, Bool.false_and, Bool.or_true, Bool.true_or, Bool.or_false, Bool.false_or, if_true, if_false, reduceIte, Bool.false_eq_true, Bool.true_eq_false]; exact e158
  · refine x_iload_n (q := 1) dX9_turningAt_0 rfl rfl ?_
    refine xn_if_le (q := 4) 21 dX9_turningAt_1 (by decide) rfl (by omega) (fun hc1 => absurd hc1 (by omega)) (fun hc1 => ?_)
    refine x_aload_n (q := 5) dX9_turningAt_4 rfl rfl ?_
    refine m_get (q := 8) hM 6 fwX9_19 (by decide) dX9_turningAt_5 rfl rfl ?_
    refine xn_iconst (q := 9) 2 dX9_turningAt_8 rfl (by decide) ?_
    refine x_iload_n (q := 10) dX9_turningAt_9 rfl rfl ?_
    refine xn_imul (q := 11) dX9_turningAt_10 rfl ?_
    refine xn_iconst (q := 12) 1 dX9_turningAt_11 rfl (by decide) ?_
    refine xn_isub (q := 13) dX9_turningAt_12 rfl (by omega) ?_
    refine m_zald (q := 14) hM (n := 6) (by decide) dX9_turningAt_13 rfl (by omega) ?_
    rw [(onlyTC.rfl').2.1, hHl, hl]
    refine x_if_ne (q := 17) 21 dX9_turningAt_14 (by decide) rfl (fun hc14 => ?_) (fun hc14 => absurd hc14 (by decide))
    refine xn_iconst (q := 22) 0 dX9_turningAt_21 rfl (by decide) ?_
    refine x_istore_n (q := 23) (ls' := [(0, _), (1, _), (2, _)]) [1, 2, 0] dX9_turningAt_22 rfl (by decide) rfl ?_
    refine x_iload_n (q := 24) dX9_turningAt_23 rfl rfl ?_
    refine x_aload_n (q := 25) dX9_turningAt_24 rfl rfl ?_
    refine m_get (q := 28) hM 3 fwX9_93 (by decide) dX9_turningAt_25 rfl rfl ?_
    rw [(onlyTC.rfl').1 3 (by decide), hm]
    refine xn_icmp_ge (q := 31) 46 dX9_turningAt_28 (by decide) rfl (by omega) (by omega) (fun hc28 => ?_) (fun hc28 => absurd hc28 (by omega))
    refine xn_iconst (q := 47) 0 dX9_turningAt_46 rfl (by decide) ?_
    refine x_istore_n (q := 48) (ls' := [(0, _), (1, _), (2, _), (3, _)]) [1, 2, 3, 0] dX9_turningAt_47 rfl (by decide) rfl ?_
    refine x_iload_n (q := 49) dX9_turningAt_48 rfl rfl ?_
    refine xn_if_le (q := 52) 83 dX9_turningAt_49 (by decide) rfl (by omega) (fun hc49 => absurd hc49 (by omega)) (fun hc49 => ?_)
    refine x_aload_n (q := 53) dX9_turningAt_52 rfl rfl ?_
    refine m_get (q := 56) hM 6 fwX9_19 (by decide) dX9_turningAt_53 rfl rfl ?_
    refine xn_iconst (q := 57) 2 dX9_turningAt_56 rfl (by decide) ?_
    refine x_iload_n (q := 58) dX9_turningAt_57 rfl rfl ?_
    refine xn_imul (q := 59) dX9_turningAt_58 rfl ?_
    refine xn_iconst (q := 60) 1 dX9_turningAt_59 rfl (by decide) ?_
    refine xn_isub (q := 61) dX9_turningAt_60 rfl (by omega) ?_
    refine m_zald (q := 62) hM (n := 6) (by decide) dX9_turningAt_61 rfl (by omega) ?_
    rw [(onlyTC.rfl').2.1, hHl, hl]
    refine x_if_eq (q := 65) 83 dX9_turningAt_62 (by decide) rfl (fun hc62 => absurd hc62 (by decide)) (fun hc62 => ?_)
    refine x_aload_n (q := 66) dX9_turningAt_65 rfl rfl ?_
    refine x_iload_n (q := 67) dX9_turningAt_66 rfl rfl ?_
    refine xn_iconst (q := 68) 1 dX9_turningAt_67 rfl (by decide) ?_
    refine xn_isub (q := 69) dX9_turningAt_68 rfl (by omega) ?_
    refine xn_lconst (q := 70) 1 dX9_turningAt_69 rfl (by decide) ?_
    refine m_call (q := 73) (As := [_, _]) hM imX9_rightMoment ivX9_rightMoment ilX9_rightMoment mwX9_178 xciX9 dX9_turningAt_70 rfl rfl rfl (Nat.le_of_ble_eq_true rfl) ?_
    refine (c_rightMoment G l o as M0 N S d σ c (r) (node - 1) _ _ 1 rfl ((onlyTC.rfl').cf hc) hr (by omega) (by omega) hT).mono (fun x σc1 hp => ?_)
    obtain ⟨rfl, qc1, tc1⟩ := hp
    intro M hM
    have oc1 : onlyTC σ σc1 := (onlyTC.rfl').trans qc1.c
    have hrc1 : σc1.1 21 = nI (r) := by rw [qc1.1]; exact hr
    show xX G l _ (d + 3) _ _ _ [] M N S
    refine x_aload_n (q := 74) dX9_turningAt_73 rfl rfl ?_
    refine x_dup (q := 75) dX9_turningAt_74 rfl rfl ?_
    refine m_get (q := 78) hM 21 fwX9_139 (by decide) dX9_turningAt_75 rfl rfl ?_
    rw [hrc1]
    refine xn_iconst (q := 79) 1 dX9_turningAt_78 rfl (by decide) ?_
    refine xn_iadd (q := 80) dX9_turningAt_79 rfl ?_
    refine m_putG (q := 83) hM 21 fwX9_139 (by decide) rfl rfl rfl dX9_turningAt_80 rfl rfl rfl (fun M σ80 a80 e80 b80 hM => ?_)
    have o80 : onlyTC σ σ80 := (oc1).trans (onlyTC.inc a80 b80)
    have t80 := (tc1).same b80
    refine x_iload_n (q := 84) dX9_turningAt_83 rfl rfl ?_
    refine x_aload_n (q := 85) dX9_turningAt_84 rfl rfl ?_
    refine m_get (q := 88) hM 3 fwX9_93 (by decide) dX9_turningAt_85 rfl rfl ?_
    rw [(o80).1 3 (by decide), hm]
    refine xn_icmp_ge (q := 91) 122 dX9_turningAt_88 (by decide) rfl (by omega) (by omega) (fun hc88 => ?_) (fun hc88 => absurd hc88 (by omega))
    refine x_iload_n (q := 123) dX9_turningAt_122 rfl rfl ?_
    refine xn_if_ne (q := 126) 131 dX9_turningAt_123 (by decide) rfl (by omega) (fun hc123 => absurd hc123 (by decide)) (fun hc123 => ?_)
    refine x_iload_n (q := 127) dX9_turningAt_126 rfl rfl ?_
    refine xn_if_ne (q := 130) 131 dX9_turningAt_127 (by decide) rfl (by omega) (fun hc127 => absurd hc127 (by decide)) (fun hc127 => ?_)
    refine x_vret rfl dX9_turningAt_130 (m_ret hM ⟨rfl, o80, ?_, ?_⟩)
    · simp only [turnP, h0, hR, hl, hg, hU, decide_true, decide_false, Bool.not_true, Bool.not_false, Bool.and_true, Bool.true_and, Bool.and_false, Bool.false_and, Bool.or_true, Bool.true_or, Bool.or_false, Bool.false_or, if_true, if_false, reduceIte, Bool.false_eq_true, Bool.true_eq_false]; exact t80
    · simp only [turnP, h0, hR, hl, hg, hU, decide_true, decide_false, Bool.not_true, Bool.not_false, Bool.and_true, Bool.true_and, Bool.and_false, Bool.false_and, Bool.or_true, Bool.true_or, Bool.or_false, Bool.false_or, if_true, if_false, reduceIte, Bool.false_eq_true, Bool.true_eq_false]; exact e80
  · refine x_iload_n (q := 1) dX9_turningAt_0 rfl rfl ?_
    refine xn_if_le (q := 4) 21 dX9_turningAt_1 (by decide) rfl (by omega) (fun hc1 => absurd hc1 (by omega)) (fun hc1 => ?_)
    refine x_aload_n (q := 5) dX9_turningAt_4 rfl rfl ?_
    refine m_get (q := 8) hM 6 fwX9_19 (by decide) dX9_turningAt_5 rfl rfl ?_
    refine xn_iconst (q := 9) 2 dX9_turningAt_8 rfl (by decide) ?_
    refine x_iload_n (q := 10) dX9_turningAt_9 rfl rfl ?_
    refine xn_imul (q := 11) dX9_turningAt_10 rfl ?_
    refine xn_iconst (q := 12) 1 dX9_turningAt_11 rfl (by decide) ?_
    refine xn_isub (q := 13) dX9_turningAt_12 rfl (by omega) ?_
    refine m_zald (q := 14) hM (n := 6) (by decide) dX9_turningAt_13 rfl (by omega) ?_
    rw [(onlyTC.rfl').2.1, hHl, hl]
    refine x_if_ne (q := 17) 21 dX9_turningAt_14 (by decide) rfl (fun hc14 => ?_) (fun hc14 => absurd hc14 (by decide))
    refine xn_iconst (q := 22) 0 dX9_turningAt_21 rfl (by decide) ?_
    refine x_istore_n (q := 23) (ls' := [(0, _), (1, _), (2, _)]) [1, 2, 0] dX9_turningAt_22 rfl (by decide) rfl ?_
    refine x_iload_n (q := 24) dX9_turningAt_23 rfl rfl ?_
    refine x_aload_n (q := 25) dX9_turningAt_24 rfl rfl ?_
    refine m_get (q := 28) hM 3 fwX9_93 (by decide) dX9_turningAt_25 rfl rfl ?_
    rw [(onlyTC.rfl').1 3 (by decide), hm]
    refine xn_icmp_ge (q := 31) 46 dX9_turningAt_28 (by decide) rfl (by omega) (by omega) (fun hc28 => ?_) (fun hc28 => absurd hc28 (by omega))
    refine xn_iconst (q := 47) 0 dX9_turningAt_46 rfl (by decide) ?_
    refine x_istore_n (q := 48) (ls' := [(0, _), (1, _), (2, _), (3, _)]) [1, 2, 3, 0] dX9_turningAt_47 rfl (by decide) rfl ?_
    refine x_iload_n (q := 49) dX9_turningAt_48 rfl rfl ?_
    refine xn_if_le (q := 52) 83 dX9_turningAt_49 (by decide) rfl (by omega) (fun hc49 => absurd hc49 (by omega)) (fun hc49 => ?_)
    refine x_aload_n (q := 53) dX9_turningAt_52 rfl rfl ?_
    refine m_get (q := 56) hM 6 fwX9_19 (by decide) dX9_turningAt_53 rfl rfl ?_
    refine xn_iconst (q := 57) 2 dX9_turningAt_56 rfl (by decide) ?_
    refine x_iload_n (q := 58) dX9_turningAt_57 rfl rfl ?_
    refine xn_imul (q := 59) dX9_turningAt_58 rfl ?_
    refine xn_iconst (q := 60) 1 dX9_turningAt_59 rfl (by decide) ?_
    refine xn_isub (q := 61) dX9_turningAt_60 rfl (by omega) ?_
    refine m_zald (q := 62) hM (n := 6) (by decide) dX9_turningAt_61 rfl (by omega) ?_
    rw [(onlyTC.rfl').2.1, hHl, hl]
    refine x_if_eq (q := 65) 83 dX9_turningAt_62 (by decide) rfl (fun hc62 => absurd hc62 (by decide)) (fun hc62 => ?_)
    refine x_aload_n (q := 66) dX9_turningAt_65 rfl rfl ?_
    refine x_iload_n (q := 67) dX9_turningAt_66 rfl rfl ?_
    refine xn_iconst (q := 68) 1 dX9_turningAt_67 rfl (by decide) ?_
    refine xn_isub (q := 69) dX9_turningAt_68 rfl (by omega) ?_
    refine xn_lconst (q := 70) 1 dX9_turningAt_69 rfl (by decide) ?_
    refine m_call (q := 73) (As := [_, _]) hM imX9_rightMoment ivX9_rightMoment ilX9_rightMoment mwX9_178 xciX9 dX9_turningAt_70 rfl rfl rfl (Nat.le_of_ble_eq_true rfl) ?_
    refine (c_rightMoment G l o as M0 N S d σ c (r) (node - 1) _ _ 1 rfl ((onlyTC.rfl').cf hc) hr (by omega) (by omega) hT).mono (fun x σc1 hp => ?_)
    obtain ⟨rfl, qc1, tc1⟩ := hp
    intro M hM
    have oc1 : onlyTC σ σc1 := (onlyTC.rfl').trans qc1.c
    have hrc1 : σc1.1 21 = nI (r) := by rw [qc1.1]; exact hr
    show xX G l _ (d + 3) _ _ _ [] M N S
    refine x_aload_n (q := 74) dX9_turningAt_73 rfl rfl ?_
    refine x_dup (q := 75) dX9_turningAt_74 rfl rfl ?_
    refine m_get (q := 78) hM 21 fwX9_139 (by decide) dX9_turningAt_75 rfl rfl ?_
    rw [hrc1]
    refine xn_iconst (q := 79) 1 dX9_turningAt_78 rfl (by decide) ?_
    refine xn_iadd (q := 80) dX9_turningAt_79 rfl ?_
    refine m_putG (q := 83) hM 21 fwX9_139 (by decide) rfl rfl rfl dX9_turningAt_80 rfl rfl rfl (fun M σ80 a80 e80 b80 hM => ?_)
    have o80 : onlyTC σ σ80 := (oc1).trans (onlyTC.inc a80 b80)
    have t80 := (tc1).same b80
    refine x_iload_n (q := 84) dX9_turningAt_83 rfl rfl ?_
    refine x_aload_n (q := 85) dX9_turningAt_84 rfl rfl ?_
    refine m_get (q := 88) hM 3 fwX9_93 (by decide) dX9_turningAt_85 rfl rfl ?_
    rw [(o80).1 3 (by decide), hm]
    refine xn_icmp_ge (q := 91) 122 dX9_turningAt_88 (by decide) rfl (by omega) (by omega) (fun hc88 => ?_) (fun hc88 => absurd hc88 (by omega))
    refine x_iload_n (q := 123) dX9_turningAt_122 rfl rfl ?_
    refine xn_if_ne (q := 126) 131 dX9_turningAt_123 (by decide) rfl (by omega) (fun hc123 => absurd hc123 (by decide)) (fun hc123 => ?_)
    refine x_iload_n (q := 127) dX9_turningAt_126 rfl rfl ?_
    refine xn_if_ne (q := 130) 131 dX9_turningAt_127 (by decide) rfl (by omega) (fun hc127 => absurd hc127 (by decide)) (fun hc127 => ?_)
    refine x_vret rfl dX9_turningAt_130 (m_ret hM ⟨rfl, o80, ?_, ?_⟩)
    · simp only [turnP, h0, hR, hl, hg, hU, decide_true, decide_false, Bool.not_true, Bool.not_false, Bool.and_true, Bool.true_and, Bool.and_false, Bool.false_and, Bool.or_true, Bool.true_or, Bool.or_false, Bool.false_or, if_true, if_false, reduceIte, Bool.false_eq_true, Bool.true_eq_false]; exact t80
    · simp only [turnP, h0, hR, hl, hg, hU, decide_true, decide_false, Bool.not_true, Bool.not_false, Bool.and_true, Bool.true_and, Bool.and_false, Bool.false_and, Bool.or_true, Bool.true_or, Bool.or_false, Bool.false_or, if_true, if_false, reduceIte, Bool.false_eq_true, Bool.true_eq_false]; exact e80
  · refine x_iload_n (q := 1) dX9_turningAt_0 rfl rfl ?_
    refine xn_if_le (q := 4) 21 dX9_turningAt_1 (by decide) rfl (by omega) (fun hc1 => absurd hc1 (by omega)) (fun hc1 => ?_)
    refine x_aload_n (q := 5) dX9_turningAt_4 rfl rfl ?_
    refine m_get (q := 8) hM 6 fwX9_19 (by decide) dX9_turningAt_5 rfl rfl ?_
    refine xn_iconst (q := 9) 2 dX9_turningAt_8 rfl (by decide) ?_
    refine x_iload_n (q := 10) dX9_turningAt_9 rfl rfl ?_
    refine xn_imul (q := 11) dX9_turningAt_10 rfl ?_
    refine xn_iconst (q := 12) 1 dX9_turningAt_11 rfl (by decide) ?_
    refine xn_isub (q := 13) dX9_turningAt_12 rfl (by omega) ?_
    refine m_zald (q := 14) hM (n := 6) (by decide) dX9_turningAt_13 rfl (by omega) ?_
    rw [(onlyTC.rfl').2.1, hHl, hl]
    refine x_if_ne (q := 17) 21 dX9_turningAt_14 (by decide) rfl (fun hc14 => ?_) (fun hc14 => absurd hc14 (by decide))
    refine xn_iconst (q := 22) 0 dX9_turningAt_21 rfl (by decide) ?_
    refine x_istore_n (q := 23) (ls' := [(0, _), (1, _), (2, _)]) [1, 2, 0] dX9_turningAt_22 rfl (by decide) rfl ?_
    refine x_iload_n (q := 24) dX9_turningAt_23 rfl rfl ?_
    refine x_aload_n (q := 25) dX9_turningAt_24 rfl rfl ?_
    refine m_get (q := 28) hM 3 fwX9_93 (by decide) dX9_turningAt_25 rfl rfl ?_
    rw [(onlyTC.rfl').1 3 (by decide), hm]
    refine xn_icmp_ge (q := 31) 46 dX9_turningAt_28 (by decide) rfl (by omega) (by omega) (fun hc28 => ?_) (fun hc28 => absurd hc28 (by omega))
    refine xn_iconst (q := 47) 0 dX9_turningAt_46 rfl (by decide) ?_
    refine x_istore_n (q := 48) (ls' := [(0, _), (1, _), (2, _), (3, _)]) [1, 2, 3, 0] dX9_turningAt_47 rfl (by decide) rfl ?_
    refine x_iload_n (q := 49) dX9_turningAt_48 rfl rfl ?_
    refine xn_if_le (q := 52) 83 dX9_turningAt_49 (by decide) rfl (by omega) (fun hc49 => absurd hc49 (by omega)) (fun hc49 => ?_)
    refine x_aload_n (q := 53) dX9_turningAt_52 rfl rfl ?_
    refine m_get (q := 56) hM 6 fwX9_19 (by decide) dX9_turningAt_53 rfl rfl ?_
    refine xn_iconst (q := 57) 2 dX9_turningAt_56 rfl (by decide) ?_
    refine x_iload_n (q := 58) dX9_turningAt_57 rfl rfl ?_
    refine xn_imul (q := 59) dX9_turningAt_58 rfl ?_
    refine xn_iconst (q := 60) 1 dX9_turningAt_59 rfl (by decide) ?_
    refine xn_isub (q := 61) dX9_turningAt_60 rfl (by omega) ?_
    refine m_zald (q := 62) hM (n := 6) (by decide) dX9_turningAt_61 rfl (by omega) ?_
    rw [(onlyTC.rfl').2.1, hHl, hl]
    refine x_if_eq (q := 65) 83 dX9_turningAt_62 (by decide) rfl (fun hc62 => absurd hc62 (by decide)) (fun hc62 => ?_)
    refine x_aload_n (q := 66) dX9_turningAt_65 rfl rfl ?_
    refine x_iload_n (q := 67) dX9_turningAt_66 rfl rfl ?_
    refine xn_iconst (q := 68) 1 dX9_turningAt_67 rfl (by decide) ?_
    refine xn_isub (q := 69) dX9_turningAt_68 rfl (by omega) ?_
    refine xn_lconst (q := 70) 1 dX9_turningAt_69 rfl (by decide) ?_
    refine m_call (q := 73) (As := [_, _]) hM imX9_rightMoment ivX9_rightMoment ilX9_rightMoment mwX9_178 xciX9 dX9_turningAt_70 rfl rfl rfl (Nat.le_of_ble_eq_true rfl) ?_
    refine (c_rightMoment G l o as M0 N S d σ c (r) (node - 1) _ _ 1 rfl ((onlyTC.rfl').cf hc) hr (by omega) (by omega) hT).mono (fun x σc1 hp => ?_)
    obtain ⟨rfl, qc1, tc1⟩ := hp
    intro M hM
    have oc1 : onlyTC σ σc1 := (onlyTC.rfl').trans qc1.c
    have hrc1 : σc1.1 21 = nI (r) := by rw [qc1.1]; exact hr
    show xX G l _ (d + 3) _ _ _ [] M N S
    refine x_aload_n (q := 74) dX9_turningAt_73 rfl rfl ?_
    refine x_dup (q := 75) dX9_turningAt_74 rfl rfl ?_
    refine m_get (q := 78) hM 21 fwX9_139 (by decide) dX9_turningAt_75 rfl rfl ?_
    rw [hrc1]
    refine xn_iconst (q := 79) 1 dX9_turningAt_78 rfl (by decide) ?_
    refine xn_iadd (q := 80) dX9_turningAt_79 rfl ?_
    refine m_putG (q := 83) hM 21 fwX9_139 (by decide) rfl rfl rfl dX9_turningAt_80 rfl rfl rfl (fun M σ80 a80 e80 b80 hM => ?_)
    have o80 : onlyTC σ σ80 := (oc1).trans (onlyTC.inc a80 b80)
    have t80 := (tc1).same b80
    refine x_iload_n (q := 84) dX9_turningAt_83 rfl rfl ?_
    refine x_aload_n (q := 85) dX9_turningAt_84 rfl rfl ?_
    refine m_get (q := 88) hM 3 fwX9_93 (by decide) dX9_turningAt_85 rfl rfl ?_
    rw [(o80).1 3 (by decide), hm]
    refine xn_icmp_ge (q := 91) 122 dX9_turningAt_88 (by decide) rfl (by omega) (by omega) (fun hc88 => ?_) (fun hc88 => absurd hc88 (by omega))
    refine x_iload_n (q := 123) dX9_turningAt_122 rfl rfl ?_
    refine xn_if_ne (q := 126) 131 dX9_turningAt_123 (by decide) rfl (by omega) (fun hc123 => absurd hc123 (by decide)) (fun hc123 => ?_)
    refine x_iload_n (q := 127) dX9_turningAt_126 rfl rfl ?_
    refine xn_if_ne (q := 130) 131 dX9_turningAt_127 (by decide) rfl (by omega) (fun hc127 => absurd hc127 (by decide)) (fun hc127 => ?_)
    refine x_vret rfl dX9_turningAt_130 (m_ret hM ⟨rfl, o80, ?_, ?_⟩)
    · simp only [turnP, h0, hR, hl, hg, hU, decide_true, decide_false, Bool.not_true, Bool.not_false, Bool.and_true, Bool.true_and, Bool.and_false, Bool.false_and, Bool.or_true, Bool.true_or, Bool.or_false, Bool.false_or, if_true, if_false, reduceIte, Bool.false_eq_true, Bool.true_eq_false]; exact t80
    · simp only [turnP, h0, hR, hl, hg, hU, decide_true, decide_false, Bool.not_true, Bool.not_false, Bool.and_true, Bool.true_and, Bool.and_false, Bool.false_and, Bool.or_true, Bool.true_or, Bool.or_false, Bool.false_or, if_true, if_false, reduceIte, Bool.false_eq_true, Bool.true_eq_false]; exact e80
  · refine x_iload_n (q := 1) dX9_turningAt_0 rfl rfl ?_
    refine xn_if_le (q := 4) 21 dX9_turningAt_1 (by decide) rfl (by omega) (fun hc1 => absurd hc1 (by omega)) (fun hc1 => ?_)
    refine x_aload_n (q := 5) dX9_turningAt_4 rfl rfl ?_
    refine m_get (q := 8) hM 6 fwX9_19 (by decide) dX9_turningAt_5 rfl rfl ?_
    refine xn_iconst (q := 9) 2 dX9_turningAt_8 rfl (by decide) ?_
    refine x_iload_n (q := 10) dX9_turningAt_9 rfl rfl ?_
    refine xn_imul (q := 11) dX9_turningAt_10 rfl ?_
    refine xn_iconst (q := 12) 1 dX9_turningAt_11 rfl (by decide) ?_
    refine xn_isub (q := 13) dX9_turningAt_12 rfl (by omega) ?_
    refine m_zald (q := 14) hM (n := 6) (by decide) dX9_turningAt_13 rfl (by omega) ?_
    rw [(onlyTC.rfl').2.1, hHl, hl]
    refine x_if_ne (q := 17) 21 dX9_turningAt_14 (by decide) rfl (fun hc14 => ?_) (fun hc14 => absurd hc14 (by decide))
    refine xn_iconst (q := 22) 0 dX9_turningAt_21 rfl (by decide) ?_
    refine x_istore_n (q := 23) (ls' := [(0, _), (1, _), (2, _)]) [1, 2, 0] dX9_turningAt_22 rfl (by decide) rfl ?_
    refine x_iload_n (q := 24) dX9_turningAt_23 rfl rfl ?_
    refine x_aload_n (q := 25) dX9_turningAt_24 rfl rfl ?_
    refine m_get (q := 28) hM 3 fwX9_93 (by decide) dX9_turningAt_25 rfl rfl ?_
    rw [(onlyTC.rfl').1 3 (by decide), hm]
    refine xn_icmp_ge (q := 31) 46 dX9_turningAt_28 (by decide) rfl (by omega) (by omega) (fun hc28 => ?_) (fun hc28 => absurd hc28 (by omega))
    refine xn_iconst (q := 47) 0 dX9_turningAt_46 rfl (by decide) ?_
    refine x_istore_n (q := 48) (ls' := [(0, _), (1, _), (2, _), (3, _)]) [1, 2, 3, 0] dX9_turningAt_47 rfl (by decide) rfl ?_
    refine x_iload_n (q := 49) dX9_turningAt_48 rfl rfl ?_
    refine xn_if_le (q := 52) 83 dX9_turningAt_49 (by decide) rfl (by omega) (fun hc49 => absurd hc49 (by omega)) (fun hc49 => ?_)
    refine x_aload_n (q := 53) dX9_turningAt_52 rfl rfl ?_
    refine m_get (q := 56) hM 6 fwX9_19 (by decide) dX9_turningAt_53 rfl rfl ?_
    refine xn_iconst (q := 57) 2 dX9_turningAt_56 rfl (by decide) ?_
    refine x_iload_n (q := 58) dX9_turningAt_57 rfl rfl ?_
    refine xn_imul (q := 59) dX9_turningAt_58 rfl ?_
    refine xn_iconst (q := 60) 1 dX9_turningAt_59 rfl (by decide) ?_
    refine xn_isub (q := 61) dX9_turningAt_60 rfl (by omega) ?_
    refine m_zald (q := 62) hM (n := 6) (by decide) dX9_turningAt_61 rfl (by omega) ?_
    rw [(onlyTC.rfl').2.1, hHl, hl]
    refine x_if_eq (q := 65) 83 dX9_turningAt_62 (by decide) rfl (fun hc62 => absurd hc62 (by decide)) (fun hc62 => ?_)
    refine x_aload_n (q := 66) dX9_turningAt_65 rfl rfl ?_
    refine x_iload_n (q := 67) dX9_turningAt_66 rfl rfl ?_
    refine xn_iconst (q := 68) 1 dX9_turningAt_67 rfl (by decide) ?_
    refine xn_isub (q := 69) dX9_turningAt_68 rfl (by omega) ?_
    refine xn_lconst (q := 70) 1 dX9_turningAt_69 rfl (by decide) ?_
    refine m_call (q := 73) (As := [_, _]) hM imX9_rightMoment ivX9_rightMoment ilX9_rightMoment mwX9_178 xciX9 dX9_turningAt_70 rfl rfl rfl (Nat.le_of_ble_eq_true rfl) ?_
    refine (c_rightMoment G l o as M0 N S d σ c (r) (node - 1) _ _ 1 rfl ((onlyTC.rfl').cf hc) hr (by omega) (by omega) hT).mono (fun x σc1 hp => ?_)
    obtain ⟨rfl, qc1, tc1⟩ := hp
    intro M hM
    have oc1 : onlyTC σ σc1 := (onlyTC.rfl').trans qc1.c
    have hrc1 : σc1.1 21 = nI (r) := by rw [qc1.1]; exact hr
    show xX G l _ (d + 3) _ _ _ [] M N S
    refine x_aload_n (q := 74) dX9_turningAt_73 rfl rfl ?_
    refine x_dup (q := 75) dX9_turningAt_74 rfl rfl ?_
    refine m_get (q := 78) hM 21 fwX9_139 (by decide) dX9_turningAt_75 rfl rfl ?_
    rw [hrc1]
    refine xn_iconst (q := 79) 1 dX9_turningAt_78 rfl (by decide) ?_
    refine xn_iadd (q := 80) dX9_turningAt_79 rfl ?_
    refine m_putG (q := 83) hM 21 fwX9_139 (by decide) rfl rfl rfl dX9_turningAt_80 rfl rfl rfl (fun M σ80 a80 e80 b80 hM => ?_)
    have o80 : onlyTC σ σ80 := (oc1).trans (onlyTC.inc a80 b80)
    have t80 := (tc1).same b80
    refine x_iload_n (q := 84) dX9_turningAt_83 rfl rfl ?_
    refine x_aload_n (q := 85) dX9_turningAt_84 rfl rfl ?_
    refine m_get (q := 88) hM 3 fwX9_93 (by decide) dX9_turningAt_85 rfl rfl ?_
    rw [(o80).1 3 (by decide), hm]
    refine xn_icmp_ge (q := 91) 122 dX9_turningAt_88 (by decide) rfl (by omega) (by omega) (fun hc88 => ?_) (fun hc88 => absurd hc88 (by omega))
    refine x_iload_n (q := 123) dX9_turningAt_122 rfl rfl ?_
    refine xn_if_ne (q := 126) 131 dX9_turningAt_123 (by decide) rfl (by omega) (fun hc123 => absurd hc123 (by decide)) (fun hc123 => ?_)
    refine x_iload_n (q := 127) dX9_turningAt_126 rfl rfl ?_
    refine xn_if_ne (q := 130) 131 dX9_turningAt_127 (by decide) rfl (by omega) (fun hc127 => absurd hc127 (by decide)) (fun hc127 => ?_)
    refine x_vret rfl dX9_turningAt_130 (m_ret hM ⟨rfl, o80, ?_, ?_⟩)
    · simp only [turnP, h0, hR, hl, hg, hU, decide_true, decide_false, Bool.not_true, Bool.not_false, Bool.and_true, Bool.true_and, Bool.and_false, Bool.false_and, Bool.or_true, Bool.true_or, Bool.or_false, Bool.false_or, if_true, if_false, reduceIte, Bool.false_eq_true, Bool.true_eq_false]; exact t80
    · simp only [turnP, h0, hR, hl, hg, hU, decide_true, decide_false, Bool.not_true, Bool.not_false, Bool.and_true, Bool.true_and, Bool.and_false, Bool.false_and, Bool.or_true, Bool.true_or, Bool.or_false, Bool.false_or, if_true, if_false, reduceIte, Bool.false_eq_true, Bool.true_eq_false]; exact e80
  · refine x_iload_n (q := 1) dX9_turningAt_0 rfl rfl ?_
    refine xn_if_le (q := 4) 21 dX9_turningAt_1 (by decide) rfl (by omega) (fun hc1 => ?_) (fun hc1 => absurd hc1 (by omega))
    refine xn_iconst (q := 22) 0 dX9_turningAt_21 rfl (by decide) ?_
    refine x_istore_n (q := 23) (ls' := [(0, _), (1, _), (2, _)]) [1, 2, 0] dX9_turningAt_22 rfl (by decide) rfl ?_
    refine x_iload_n (q := 24) dX9_turningAt_23 rfl rfl ?_
    refine x_aload_n (q := 25) dX9_turningAt_24 rfl rfl ?_
    refine m_get (q := 28) hM 3 fwX9_93 (by decide) dX9_turningAt_25 rfl rfl ?_
    rw [(onlyTC.rfl').1 3 (by decide), hm]
    refine xn_icmp_ge (q := 31) 46 dX9_turningAt_28 (by decide) rfl (by omega) (by omega) (fun hc28 => absurd hc28 (by omega)) (fun hc28 => ?_)
    refine x_aload_n (q := 32) dX9_turningAt_31 rfl rfl ?_
    refine m_get (q := 35) hM 6 fwX9_19 (by decide) dX9_turningAt_32 rfl rfl ?_
    refine xn_iconst (q := 36) 2 dX9_turningAt_35 rfl (by decide) ?_
    refine x_iload_n (q := 37) dX9_turningAt_36 rfl rfl ?_
    refine xn_imul (q := 38) dX9_turningAt_37 rfl ?_
    refine m_zald (q := 39) hM (n := 6) (by decide) dX9_turningAt_38 rfl (by omega) ?_
    rw [(onlyTC.rfl').2.1, hHr hR, hg]
    refine x_if_ne (q := 42) 46 dX9_turningAt_39 (by decide) rfl (fun hc39 => absurd hc39 (by decide)) (fun hc39 => ?_)
    refine xn_iconst (q := 43) 1 dX9_turningAt_42 rfl (by decide) ?_
    refine x_goto 47 dX9_turningAt_43 (by decide) ?_
    refine x_istore_n (q := 48) (ls' := [(0, _), (1, _), (2, _), (3, _)]) [1, 2, 3, 0] dX9_turningAt_47 rfl (by decide) rfl ?_
    refine x_iload_n (q := 49) dX9_turningAt_48 rfl rfl ?_
    refine xn_if_le (q := 52) 83 dX9_turningAt_49 (by decide) rfl (by omega) (fun hc49 => ?_) (fun hc49 => absurd hc49 (by omega))
    refine x_iload_n (q := 84) dX9_turningAt_83 rfl rfl ?_
    refine x_aload_n (q := 85) dX9_turningAt_84 rfl rfl ?_
    refine m_get (q := 88) hM 3 fwX9_93 (by decide) dX9_turningAt_85 rfl rfl ?_
    rw [(onlyTC.rfl').1 3 (by decide), hm]
    refine xn_icmp_ge (q := 91) 122 dX9_turningAt_88 (by decide) rfl (by omega) (by omega) (fun hc88 => absurd hc88 (by omega)) (fun hc88 => ?_)
    refine x_aload_n (q := 92) dX9_turningAt_91 rfl rfl ?_
    refine m_get (q := 95) hM 6 fwX9_19 (by decide) dX9_turningAt_92 rfl rfl ?_
    refine xn_iconst (q := 96) 2 dX9_turningAt_95 rfl (by decide) ?_
    refine x_iload_n (q := 97) dX9_turningAt_96 rfl rfl ?_
    refine xn_imul (q := 98) dX9_turningAt_97 rfl ?_
    refine m_zald (q := 99) hM (n := 6) (by decide) dX9_turningAt_98 rfl (by omega) ?_
    rw [(onlyTC.rfl').2.1, hHr hR, hg]
    refine x_if_eq (q := 102) 122 dX9_turningAt_99 (by decide) rfl (fun hc99 => ?_) (fun hc99 => absurd (by decide) hc99)
    refine x_iload_n (q := 123) dX9_turningAt_122 rfl rfl ?_
    refine xn_if_ne (q := 126) 131 dX9_turningAt_123 (by decide) rfl (by omega) (fun hc123 => absurd hc123 (by decide)) (fun hc123 => ?_)
    refine x_iload_n (q := 127) dX9_turningAt_126 rfl rfl ?_
    refine xn_if_ne (q := 130) 131 dX9_turningAt_127 (by decide) rfl (by omega) (fun hc127 => ?_) (fun hc127 => absurd hc127 (by decide))
    refine x_aload_n (q := 132) dX9_turningAt_131 rfl rfl ?_
    refine m_get (q := 135) hM 8 fwX9_26 (by decide) dX9_turningAt_132 rfl rfl ?_
    refine x_iload_n (q := 136) dX9_turningAt_135 rfl rfl ?_
    refine m_zald (q := 137) hM (n := 4) (by decide) dX9_turningAt_136 rfl (by omega) ?_
    rw [(onlyTC.rfl').2.1, hTn, hU]
    refine x_if_eq (q := 140) 186 dX9_turningAt_137 (by decide) rfl (fun hc137 => ?_) (fun hc137 => absurd (by decide) hc137)
    refine x_iload_n (q := 187) dX9_turningAt_186 rfl rfl ?_
    refine xn_if_eq (q := 190) 233 dX9_turningAt_187 (by decide) rfl (by omega) (fun hc187 => ?_) (fun hc187 => absurd hc187 (by decide))
    refine x_iload_n (q := 234) dX9_turningAt_233 rfl rfl ?_
    refine xn_if_eq (q := 237) 245 dX9_turningAt_234 (by decide) rfl (by omega) (fun hc234 => ?_) (fun hc234 => absurd hc234 (by decide))
    refine x_iload_n (q := 246) dX9_turningAt_245 rfl rfl ?_
    refine xn_if_eq (q := 249) 261 dX9_turningAt_246 (by decide) rfl (by omega) (fun hc246 => absurd hc246 (by decide)) (fun hc246 => ?_)
    refine x_aload_n (q := 250) dX9_turningAt_249 rfl rfl ?_
    refine xn_iconst (q := 251) 4 dX9_turningAt_250 rfl (by decide) ?_
    refine x_iload_n (q := 252) dX9_turningAt_251 rfl rfl ?_
    refine xn_imul (q := 253) dX9_turningAt_252 rfl ?_
    refine xn_iconst (q := 254) 2 dX9_turningAt_253 rfl (by decide) ?_
    refine xn_iadd (q := 255) dX9_turningAt_254 rfl ?_
    refine x_ldc2 (q := 258) (-4) dX9_turningAt_255 rfl cwX9_184 ?_
    refine x_topl (y := iL (-4)) (by decide) ?_
    refine m_call (q := 261) (As := [_, _]) hM imX9_term ivX9_term ilX9_term mwX9_149 xciX9 dX9_turningAt_258 rfl rfl rfl (Nat.le_of_ble_eq_true rfl) ?_
    refine (c_term G l o as M0 N S (d + 2) σ (r) (4 * node + 2) _ _ (-4) (by first | rfl | (simp only [lN_i', ← Int64.ofInt_mul, Int.natCast_mul]; rfl)) hr (by omega) hT).mono (fun x σc1 hp => ?_)
    obtain ⟨rfl, qc1, tc1⟩ := hp
    intro M hM
    have oc1 : onlyTC σ σc1 := (onlyTC.rfl').trans qc1.c
    have hrc1 : σc1.1 21 = nI (r) := by rw [qc1.1]; exact hr
    show xX G l _ (d + 3) _ _ _ [] M N S
    refine x_aload_n (q := 262) dX9_turningAt_261 rfl rfl ?_
    refine x_dup (q := 263) dX9_turningAt_262 rfl rfl ?_
    refine m_get (q := 266) hM 21 fwX9_139 (by decide) dX9_turningAt_263 rfl rfl ?_
    rw [hrc1]
    refine xn_iconst (q := 267) 1 dX9_turningAt_266 rfl (by decide) ?_
    refine xn_iadd (q := 268) dX9_turningAt_267 rfl ?_
    refine m_putG (q := 271) hM 21 fwX9_139 (by decide) rfl rfl rfl dX9_turningAt_268 rfl rfl rfl (fun M σ268 a268 e268 b268 hM => ?_)
    have o268 : onlyTC σ σ268 := (oc1).trans (onlyTC.inc a268 b268)
    have t268 := (tc1).same b268
    refine x_vret rfl dX9_turningAt_271 (m_ret hM ⟨rfl, o268, ?_, ?_⟩)
    · simp only [turnP, h0, hR, hl, hg, hU, decide_true, decide_false, Bool.not_true, Bool.not_false, Bool.and_true, Bool.true_and, Bool.and_false, Bool.false_and, Bool.or_true, Bool.true_or, Bool.or_false, Bool.false_or, if_true, if_false, reduceIte, Bool.false_eq_true, Bool.true_eq_false]; exact t268
    · simp only [turnP, h0, hR, hl, hg, hU, decide_true, decide_false, Bool.not_true, Bool.not_false, Bool.and_true, Bool.true_and, Bool.and_false, Bool.false_and, Bool.or_true, Bool.true_or, Bool.or_false, Bool.false_or, if_true, if_false, reduceIte, Bool.false_eq_true, Bool.true_eq_false]; exact e268
  · refine x_iload_n (q := 1) dX9_turningAt_0 rfl rfl ?_
    refine xn_if_le (q := 4) 21 dX9_turningAt_1 (by decide) rfl (by omega) (fun hc1 => ?_) (fun hc1 => absurd hc1 (by omega))
    refine xn_iconst (q := 22) 0 dX9_turningAt_21 rfl (by decide) ?_
    refine x_istore_n (q := 23) (ls' := [(0, _), (1, _), (2, _)]) [1, 2, 0] dX9_turningAt_22 rfl (by decide) rfl ?_
    refine x_iload_n (q := 24) dX9_turningAt_23 rfl rfl ?_
    refine x_aload_n (q := 25) dX9_turningAt_24 rfl rfl ?_
    refine m_get (q := 28) hM 3 fwX9_93 (by decide) dX9_turningAt_25 rfl rfl ?_
    rw [(onlyTC.rfl').1 3 (by decide), hm]
    refine xn_icmp_ge (q := 31) 46 dX9_turningAt_28 (by decide) rfl (by omega) (by omega) (fun hc28 => absurd hc28 (by omega)) (fun hc28 => ?_)
    refine x_aload_n (q := 32) dX9_turningAt_31 rfl rfl ?_
    refine m_get (q := 35) hM 6 fwX9_19 (by decide) dX9_turningAt_32 rfl rfl ?_
    refine xn_iconst (q := 36) 2 dX9_turningAt_35 rfl (by decide) ?_
    refine x_iload_n (q := 37) dX9_turningAt_36 rfl rfl ?_
    refine xn_imul (q := 38) dX9_turningAt_37 rfl ?_
    refine m_zald (q := 39) hM (n := 6) (by decide) dX9_turningAt_38 rfl (by omega) ?_
    rw [(onlyTC.rfl').2.1, hHr hR, hg]
    refine x_if_ne (q := 42) 46 dX9_turningAt_39 (by decide) rfl (fun hc39 => absurd hc39 (by decide)) (fun hc39 => ?_)
    refine xn_iconst (q := 43) 1 dX9_turningAt_42 rfl (by decide) ?_
    refine x_goto 47 dX9_turningAt_43 (by decide) ?_
    refine x_istore_n (q := 48) (ls' := [(0, _), (1, _), (2, _), (3, _)]) [1, 2, 3, 0] dX9_turningAt_47 rfl (by decide) rfl ?_
    refine x_iload_n (q := 49) dX9_turningAt_48 rfl rfl ?_
    refine xn_if_le (q := 52) 83 dX9_turningAt_49 (by decide) rfl (by omega) (fun hc49 => ?_) (fun hc49 => absurd hc49 (by omega))
    refine x_iload_n (q := 84) dX9_turningAt_83 rfl rfl ?_
    refine x_aload_n (q := 85) dX9_turningAt_84 rfl rfl ?_
    refine m_get (q := 88) hM 3 fwX9_93 (by decide) dX9_turningAt_85 rfl rfl ?_
    rw [(onlyTC.rfl').1 3 (by decide), hm]
    refine xn_icmp_ge (q := 91) 122 dX9_turningAt_88 (by decide) rfl (by omega) (by omega) (fun hc88 => absurd hc88 (by omega)) (fun hc88 => ?_)
    refine x_aload_n (q := 92) dX9_turningAt_91 rfl rfl ?_
    refine m_get (q := 95) hM 6 fwX9_19 (by decide) dX9_turningAt_92 rfl rfl ?_
    refine xn_iconst (q := 96) 2 dX9_turningAt_95 rfl (by decide) ?_
    refine x_iload_n (q := 97) dX9_turningAt_96 rfl rfl ?_
    refine xn_imul (q := 98) dX9_turningAt_97 rfl ?_
    refine m_zald (q := 99) hM (n := 6) (by decide) dX9_turningAt_98 rfl (by omega) ?_
    rw [(onlyTC.rfl').2.1, hHr hR, hg]
    refine x_if_eq (q := 102) 122 dX9_turningAt_99 (by decide) rfl (fun hc99 => ?_) (fun hc99 => absurd (by decide) hc99)
    refine x_iload_n (q := 123) dX9_turningAt_122 rfl rfl ?_
    refine xn_if_ne (q := 126) 131 dX9_turningAt_123 (by decide) rfl (by omega) (fun hc123 => absurd hc123 (by decide)) (fun hc123 => ?_)
    refine x_iload_n (q := 127) dX9_turningAt_126 rfl rfl ?_
    refine xn_if_ne (q := 130) 131 dX9_turningAt_127 (by decide) rfl (by omega) (fun hc127 => ?_) (fun hc127 => absurd hc127 (by decide))
    refine x_aload_n (q := 132) dX9_turningAt_131 rfl rfl ?_
    refine m_get (q := 135) hM 8 fwX9_26 (by decide) dX9_turningAt_132 rfl rfl ?_
    refine x_iload_n (q := 136) dX9_turningAt_135 rfl rfl ?_
    refine m_zald (q := 137) hM (n := 4) (by decide) dX9_turningAt_136 rfl (by omega) ?_
    rw [(onlyTC.rfl').2.1, hTn, hU]
    refine x_if_eq (q := 140) 186 dX9_turningAt_137 (by decide) rfl (fun hc137 => absurd hc137 (by decide)) (fun hc137 => ?_)
    refine x_iload_n (q := 141) dX9_turningAt_140 rfl rfl ?_
    refine xn_if_eq (q := 144) 161 dX9_turningAt_141 (by decide) rfl (by omega) (fun hc141 => ?_) (fun hc141 => absurd hc141 (by decide))
    refine x_iload_n (q := 162) dX9_turningAt_161 rfl rfl ?_
    refine xn_if_eq (q := 165) 185 dX9_turningAt_162 (by decide) rfl (by omega) (fun hc162 => absurd hc162 (by decide)) (fun hc162 => ?_)
    refine x_aload_n (q := 166) dX9_turningAt_165 rfl rfl ?_
    refine xn_iconst (q := 167) 4 dX9_turningAt_166 rfl (by decide) ?_
    refine x_iload_n (q := 168) dX9_turningAt_167 rfl rfl ?_
    refine xn_imul (q := 169) dX9_turningAt_168 rfl ?_
    refine xn_iconst (q := 170) 1 dX9_turningAt_169 rfl (by decide) ?_
    refine xn_iadd (q := 171) dX9_turningAt_170 rfl ?_
    refine xn_lconst (q := 172) 1 dX9_turningAt_171 rfl (by decide) ?_
    refine m_call (q := 175) (As := [_, _]) hM imX9_term ivX9_term ilX9_term mwX9_149 xciX9 dX9_turningAt_172 rfl rfl rfl (Nat.le_of_ble_eq_true rfl) ?_
    refine (c_term G l o as M0 N S (d + 2) σ (r) (4 * node + 1) _ _ (1) (by first | rfl | (simp only [lN_i', ← Int64.ofInt_mul, Int.natCast_mul]; rfl)) hr (by omega) hT).mono (fun x σc1 hp => ?_)
    obtain ⟨rfl, qc1, tc1⟩ := hp
    intro M hM
    have oc1 : onlyTC σ σc1 := (onlyTC.rfl').trans qc1.c
    have hrc1 : σc1.1 21 = nI (r) := by rw [qc1.1]; exact hr
    show xX G l _ (d + 3) _ _ _ [] M N S
    refine x_aload_n (q := 176) dX9_turningAt_175 rfl rfl ?_
    refine x_dup (q := 177) dX9_turningAt_176 rfl rfl ?_
    refine m_get (q := 180) hM 21 fwX9_139 (by decide) dX9_turningAt_177 rfl rfl ?_
    rw [hrc1]
    refine xn_iconst (q := 181) 1 dX9_turningAt_180 rfl (by decide) ?_
    refine xn_iadd (q := 182) dX9_turningAt_181 rfl ?_
    refine m_putG (q := 185) hM 21 fwX9_139 (by decide) rfl rfl rfl dX9_turningAt_182 rfl rfl rfl (fun M σ182 a182 e182 b182 hM => ?_)
    have o182 : onlyTC σ σ182 := (oc1).trans (onlyTC.inc a182 b182)
    have t182 := (tc1).same b182
    refine x_vret rfl dX9_turningAt_185 (m_ret hM ⟨rfl, o182, ?_, ?_⟩)
    · simp only [turnP, h0, hR, hl, hg, hU, decide_true, decide_false, Bool.not_true, Bool.not_false, Bool.and_true, Bool.true_and, Bool.and_false, Bool.false_and, Bool.or_true, Bool.true_or, Bool.or_false, Bool.false_or, if_true, if_false, reduceIte, Bool.false_eq_true, Bool.true_eq_false]; exact t182
    · simp only [turnP, h0, hR, hl, hg, hU, decide_true, decide_false, Bool.not_true, Bool.not_false, Bool.and_true, Bool.true_and, Bool.and_false, Bool.false_and, Bool.or_true, Bool.true_or, Bool.or_false, Bool.false_or, if_true, if_false, reduceIte, Bool.false_eq_true, Bool.true_eq_false]; exact e182
  · refine x_iload_n (q := 1) dX9_turningAt_0 rfl rfl ?_
    refine xn_if_le (q := 4) 21 dX9_turningAt_1 (by decide) rfl (by omega) (fun hc1 => ?_) (fun hc1 => absurd hc1 (by omega))
    refine xn_iconst (q := 22) 0 dX9_turningAt_21 rfl (by decide) ?_
    refine x_istore_n (q := 23) (ls' := [(0, _), (1, _), (2, _)]) [1, 2, 0] dX9_turningAt_22 rfl (by decide) rfl ?_
    refine x_iload_n (q := 24) dX9_turningAt_23 rfl rfl ?_
    refine x_aload_n (q := 25) dX9_turningAt_24 rfl rfl ?_
    refine m_get (q := 28) hM 3 fwX9_93 (by decide) dX9_turningAt_25 rfl rfl ?_
    rw [(onlyTC.rfl').1 3 (by decide), hm]
    refine xn_icmp_ge (q := 31) 46 dX9_turningAt_28 (by decide) rfl (by omega) (by omega) (fun hc28 => absurd hc28 (by omega)) (fun hc28 => ?_)
    refine x_aload_n (q := 32) dX9_turningAt_31 rfl rfl ?_
    refine m_get (q := 35) hM 6 fwX9_19 (by decide) dX9_turningAt_32 rfl rfl ?_
    refine xn_iconst (q := 36) 2 dX9_turningAt_35 rfl (by decide) ?_
    refine x_iload_n (q := 37) dX9_turningAt_36 rfl rfl ?_
    refine xn_imul (q := 38) dX9_turningAt_37 rfl ?_
    refine m_zald (q := 39) hM (n := 6) (by decide) dX9_turningAt_38 rfl (by omega) ?_
    rw [(onlyTC.rfl').2.1, hHr hR, hg]
    refine x_if_ne (q := 42) 46 dX9_turningAt_39 (by decide) rfl (fun hc39 => ?_) (fun hc39 => absurd hc39 (by decide))
    refine xn_iconst (q := 47) 0 dX9_turningAt_46 rfl (by decide) ?_
    refine x_istore_n (q := 48) (ls' := [(0, _), (1, _), (2, _), (3, _)]) [1, 2, 3, 0] dX9_turningAt_47 rfl (by decide) rfl ?_
    refine x_iload_n (q := 49) dX9_turningAt_48 rfl rfl ?_
    refine xn_if_le (q := 52) 83 dX9_turningAt_49 (by decide) rfl (by omega) (fun hc49 => ?_) (fun hc49 => absurd hc49 (by omega))
    refine x_iload_n (q := 84) dX9_turningAt_83 rfl rfl ?_
    refine x_aload_n (q := 85) dX9_turningAt_84 rfl rfl ?_
    refine m_get (q := 88) hM 3 fwX9_93 (by decide) dX9_turningAt_85 rfl rfl ?_
    rw [(onlyTC.rfl').1 3 (by decide), hm]
    refine xn_icmp_ge (q := 91) 122 dX9_turningAt_88 (by decide) rfl (by omega) (by omega) (fun hc88 => absurd hc88 (by omega)) (fun hc88 => ?_)
    refine x_aload_n (q := 92) dX9_turningAt_91 rfl rfl ?_
    refine m_get (q := 95) hM 6 fwX9_19 (by decide) dX9_turningAt_92 rfl rfl ?_
    refine xn_iconst (q := 96) 2 dX9_turningAt_95 rfl (by decide) ?_
    refine x_iload_n (q := 97) dX9_turningAt_96 rfl rfl ?_
    refine xn_imul (q := 98) dX9_turningAt_97 rfl ?_
    refine m_zald (q := 99) hM (n := 6) (by decide) dX9_turningAt_98 rfl (by omega) ?_
    rw [(onlyTC.rfl').2.1, hHr hR, hg]
    refine x_if_eq (q := 102) 122 dX9_turningAt_99 (by decide) rfl (fun hc99 => absurd hc99 (by decide)) (fun hc99 => ?_)
    refine x_aload_n (q := 103) dX9_turningAt_102 rfl rfl ?_
    refine xn_iconst (q := 104) 4 dX9_turningAt_103 rfl (by decide) ?_
    refine x_iload_n (q := 105) dX9_turningAt_104 rfl rfl ?_
    refine xn_imul (q := 106) dX9_turningAt_105 rfl ?_
    refine xn_iconst (q := 107) 2 dX9_turningAt_106 rfl (by decide) ?_
    refine xn_iadd (q := 108) dX9_turningAt_107 rfl ?_
    refine xn_lconst (q := 109) 1 dX9_turningAt_108 rfl (by decide) ?_
    refine m_call (q := 112) (As := [_, _]) hM imX9_term ivX9_term ilX9_term mwX9_149 xciX9 dX9_turningAt_109 rfl rfl rfl (Nat.le_of_ble_eq_true rfl) ?_
    refine (c_term G l o as M0 N S (d + 2) σ (r) (4 * node + 2) _ _ (1) (by first | rfl | (simp only [lN_i', ← Int64.ofInt_mul, Int.natCast_mul]; rfl)) hr (by omega) hT).mono (fun x σc1 hp => ?_)
    obtain ⟨rfl, qc1, tc1⟩ := hp
    intro M hM
    have oc1 : onlyTC σ σc1 := (onlyTC.rfl').trans qc1.c
    have hrc1 : σc1.1 21 = nI (r) := by rw [qc1.1]; exact hr
    show xX G l _ (d + 3) _ _ _ [] M N S
    refine x_aload_n (q := 113) dX9_turningAt_112 rfl rfl ?_
    refine x_dup (q := 114) dX9_turningAt_113 rfl rfl ?_
    refine m_get (q := 117) hM 21 fwX9_139 (by decide) dX9_turningAt_114 rfl rfl ?_
    rw [hrc1]
    refine xn_iconst (q := 118) 1 dX9_turningAt_117 rfl (by decide) ?_
    refine xn_iadd (q := 119) dX9_turningAt_118 rfl ?_
    refine m_putG (q := 122) hM 21 fwX9_139 (by decide) rfl rfl rfl dX9_turningAt_119 rfl rfl rfl (fun M σ119 a119 e119 b119 hM => ?_)
    have o119 : onlyTC σ σ119 := (oc1).trans (onlyTC.inc a119 b119)
    have t119 := (tc1).same b119
    refine x_iload_n (q := 123) dX9_turningAt_122 rfl rfl ?_
    refine xn_if_ne (q := 126) 131 dX9_turningAt_123 (by decide) rfl (by omega) (fun hc123 => absurd hc123 (by decide)) (fun hc123 => ?_)
    refine x_iload_n (q := 127) dX9_turningAt_126 rfl rfl ?_
    refine xn_if_ne (q := 130) 131 dX9_turningAt_127 (by decide) rfl (by omega) (fun hc127 => absurd hc127 (by decide)) (fun hc127 => ?_)
    refine x_vret rfl dX9_turningAt_130 (m_ret hM ⟨rfl, o119, ?_, ?_⟩)
    · simp only [turnP, h0, hR, hl, hg, hU, decide_true, decide_false, Bool.not_true, Bool.not_false, Bool.and_true, Bool.true_and, Bool.and_false, Bool.false_and, Bool.or_true, Bool.true_or, Bool.or_false, Bool.false_or, if_true, if_false, reduceIte, Bool.false_eq_true, Bool.true_eq_false]; exact t119
    · simp only [turnP, h0, hR, hl, hg, hU, decide_true, decide_false, Bool.not_true, Bool.not_false, Bool.and_true, Bool.true_and, Bool.and_false, Bool.false_and, Bool.or_true, Bool.true_or, Bool.or_false, Bool.false_or, if_true, if_false, reduceIte, Bool.false_eq_true, Bool.true_eq_false]; exact e119
  · refine x_iload_n (q := 1) dX9_turningAt_0 rfl rfl ?_
    refine xn_if_le (q := 4) 21 dX9_turningAt_1 (by decide) rfl (by omega) (fun hc1 => ?_) (fun hc1 => absurd hc1 (by omega))
    refine xn_iconst (q := 22) 0 dX9_turningAt_21 rfl (by decide) ?_
    refine x_istore_n (q := 23) (ls' := [(0, _), (1, _), (2, _)]) [1, 2, 0] dX9_turningAt_22 rfl (by decide) rfl ?_
    refine x_iload_n (q := 24) dX9_turningAt_23 rfl rfl ?_
    refine x_aload_n (q := 25) dX9_turningAt_24 rfl rfl ?_
    refine m_get (q := 28) hM 3 fwX9_93 (by decide) dX9_turningAt_25 rfl rfl ?_
    rw [(onlyTC.rfl').1 3 (by decide), hm]
    refine xn_icmp_ge (q := 31) 46 dX9_turningAt_28 (by decide) rfl (by omega) (by omega) (fun hc28 => absurd hc28 (by omega)) (fun hc28 => ?_)
    refine x_aload_n (q := 32) dX9_turningAt_31 rfl rfl ?_
    refine m_get (q := 35) hM 6 fwX9_19 (by decide) dX9_turningAt_32 rfl rfl ?_
    refine xn_iconst (q := 36) 2 dX9_turningAt_35 rfl (by decide) ?_
    refine x_iload_n (q := 37) dX9_turningAt_36 rfl rfl ?_
    refine xn_imul (q := 38) dX9_turningAt_37 rfl ?_
    refine m_zald (q := 39) hM (n := 6) (by decide) dX9_turningAt_38 rfl (by omega) ?_
    rw [(onlyTC.rfl').2.1, hHr hR, hg]
    refine x_if_ne (q := 42) 46 dX9_turningAt_39 (by decide) rfl (fun hc39 => ?_) (fun hc39 => absurd hc39 (by decide))
    refine xn_iconst (q := 47) 0 dX9_turningAt_46 rfl (by decide) ?_
    refine x_istore_n (q := 48) (ls' := [(0, _), (1, _), (2, _), (3, _)]) [1, 2, 3, 0] dX9_turningAt_47 rfl (by decide) rfl ?_
    refine x_iload_n (q := 49) dX9_turningAt_48 rfl rfl ?_
    refine xn_if_le (q := 52) 83 dX9_turningAt_49 (by decide) rfl (by omega) (fun hc49 => ?_) (fun hc49 => absurd hc49 (by omega))
    refine x_iload_n (q := 84) dX9_turningAt_83 rfl rfl ?_
    refine x_aload_n (q := 85) dX9_turningAt_84 rfl rfl ?_
    refine m_get (q := 88) hM 3 fwX9_93 (by decide) dX9_turningAt_85 rfl rfl ?_
    rw [(onlyTC.rfl').1 3 (by decide), hm]
    refine xn_icmp_ge (q := 91) 122 dX9_turningAt_88 (by decide) rfl (by omega) (by omega) (fun hc88 => absurd hc88 (by omega)) (fun hc88 => ?_)
    refine x_aload_n (q := 92) dX9_turningAt_91 rfl rfl ?_
    refine m_get (q := 95) hM 6 fwX9_19 (by decide) dX9_turningAt_92 rfl rfl ?_
    refine xn_iconst (q := 96) 2 dX9_turningAt_95 rfl (by decide) ?_
    refine x_iload_n (q := 97) dX9_turningAt_96 rfl rfl ?_
    refine xn_imul (q := 98) dX9_turningAt_97 rfl ?_
    refine m_zald (q := 99) hM (n := 6) (by decide) dX9_turningAt_98 rfl (by omega) ?_
    rw [(onlyTC.rfl').2.1, hHr hR, hg]
    refine x_if_eq (q := 102) 122 dX9_turningAt_99 (by decide) rfl (fun hc99 => absurd hc99 (by decide)) (fun hc99 => ?_)
    refine x_aload_n (q := 103) dX9_turningAt_102 rfl rfl ?_
    refine xn_iconst (q := 104) 4 dX9_turningAt_103 rfl (by decide) ?_
    refine x_iload_n (q := 105) dX9_turningAt_104 rfl rfl ?_
    refine xn_imul (q := 106) dX9_turningAt_105 rfl ?_
    refine xn_iconst (q := 107) 2 dX9_turningAt_106 rfl (by decide) ?_
    refine xn_iadd (q := 108) dX9_turningAt_107 rfl ?_
    refine xn_lconst (q := 109) 1 dX9_turningAt_108 rfl (by decide) ?_
    refine m_call (q := 112) (As := [_, _]) hM imX9_term ivX9_term ilX9_term mwX9_149 xciX9 dX9_turningAt_109 rfl rfl rfl (Nat.le_of_ble_eq_true rfl) ?_
    refine (c_term G l o as M0 N S (d + 2) σ (r) (4 * node + 2) _ _ (1) (by first | rfl | (simp only [lN_i', ← Int64.ofInt_mul, Int.natCast_mul]; rfl)) hr (by omega) hT).mono (fun x σc1 hp => ?_)
    obtain ⟨rfl, qc1, tc1⟩ := hp
    intro M hM
    have oc1 : onlyTC σ σc1 := (onlyTC.rfl').trans qc1.c
    have hrc1 : σc1.1 21 = nI (r) := by rw [qc1.1]; exact hr
    show xX G l _ (d + 3) _ _ _ [] M N S
    refine x_aload_n (q := 113) dX9_turningAt_112 rfl rfl ?_
    refine x_dup (q := 114) dX9_turningAt_113 rfl rfl ?_
    refine m_get (q := 117) hM 21 fwX9_139 (by decide) dX9_turningAt_114 rfl rfl ?_
    rw [hrc1]
    refine xn_iconst (q := 118) 1 dX9_turningAt_117 rfl (by decide) ?_
    refine xn_iadd (q := 119) dX9_turningAt_118 rfl ?_
    refine m_putG (q := 122) hM 21 fwX9_139 (by decide) rfl rfl rfl dX9_turningAt_119 rfl rfl rfl (fun M σ119 a119 e119 b119 hM => ?_)
    have o119 : onlyTC σ σ119 := (oc1).trans (onlyTC.inc a119 b119)
    have t119 := (tc1).same b119
    refine x_iload_n (q := 123) dX9_turningAt_122 rfl rfl ?_
    refine xn_if_ne (q := 126) 131 dX9_turningAt_123 (by decide) rfl (by omega) (fun hc123 => absurd hc123 (by decide)) (fun hc123 => ?_)
    refine x_iload_n (q := 127) dX9_turningAt_126 rfl rfl ?_
    refine xn_if_ne (q := 130) 131 dX9_turningAt_127 (by decide) rfl (by omega) (fun hc127 => absurd hc127 (by decide)) (fun hc127 => ?_)
    refine x_vret rfl dX9_turningAt_130 (m_ret hM ⟨rfl, o119, ?_, ?_⟩)
    · simp only [turnP, h0, hR, hl, hg, hU, decide_true, decide_false, Bool.not_true, Bool.not_false, Bool.and_true, Bool.true_and, Bool.and_false, Bool.false_and, Bool.or_true, Bool.true_or, Bool.or_false, Bool.false_or, if_true, if_false, reduceIte, Bool.false_eq_true, Bool.true_eq_false]; exact t119
    · simp only [turnP, h0, hR, hl, hg, hU, decide_true, decide_false, Bool.not_true, Bool.not_false, Bool.and_true, Bool.true_and, Bool.and_false, Bool.false_and, Bool.or_true, Bool.true_or, Bool.or_false, Bool.false_or, if_true, if_false, reduceIte, Bool.false_eq_true, Bool.true_eq_false]; exact e119
  · refine x_iload_n (q := 1) dX9_turningAt_0 rfl rfl ?_
    refine xn_if_le (q := 4) 21 dX9_turningAt_1 (by decide) rfl (by omega) (fun hc1 => ?_) (fun hc1 => absurd hc1 (by omega))
    refine xn_iconst (q := 22) 0 dX9_turningAt_21 rfl (by decide) ?_
    refine x_istore_n (q := 23) (ls' := [(0, _), (1, _), (2, _)]) [1, 2, 0] dX9_turningAt_22 rfl (by decide) rfl ?_
    refine x_iload_n (q := 24) dX9_turningAt_23 rfl rfl ?_
    refine x_aload_n (q := 25) dX9_turningAt_24 rfl rfl ?_
    refine m_get (q := 28) hM 3 fwX9_93 (by decide) dX9_turningAt_25 rfl rfl ?_
    rw [(onlyTC.rfl').1 3 (by decide), hm]
    refine xn_icmp_ge (q := 31) 46 dX9_turningAt_28 (by decide) rfl (by omega) (by omega) (fun hc28 => absurd hc28 (by omega)) (fun hc28 => ?_)
    refine x_aload_n (q := 32) dX9_turningAt_31 rfl rfl ?_
    refine m_get (q := 35) hM 6 fwX9_19 (by decide) dX9_turningAt_32 rfl rfl ?_
    refine xn_iconst (q := 36) 2 dX9_turningAt_35 rfl (by decide) ?_
    refine x_iload_n (q := 37) dX9_turningAt_36 rfl rfl ?_
    refine xn_imul (q := 38) dX9_turningAt_37 rfl ?_
    refine m_zald (q := 39) hM (n := 6) (by decide) dX9_turningAt_38 rfl (by omega) ?_
    rw [(onlyTC.rfl').2.1, hHr hR, hg]
    refine x_if_ne (q := 42) 46 dX9_turningAt_39 (by decide) rfl (fun hc39 => absurd hc39 (by decide)) (fun hc39 => ?_)
    refine xn_iconst (q := 43) 1 dX9_turningAt_42 rfl (by decide) ?_
    refine x_goto 47 dX9_turningAt_43 (by decide) ?_
    refine x_istore_n (q := 48) (ls' := [(0, _), (1, _), (2, _), (3, _)]) [1, 2, 3, 0] dX9_turningAt_47 rfl (by decide) rfl ?_
    refine x_iload_n (q := 49) dX9_turningAt_48 rfl rfl ?_
    refine xn_if_le (q := 52) 83 dX9_turningAt_49 (by decide) rfl (by omega) (fun hc49 => ?_) (fun hc49 => absurd hc49 (by omega))
    refine x_iload_n (q := 84) dX9_turningAt_83 rfl rfl ?_
    refine x_aload_n (q := 85) dX9_turningAt_84 rfl rfl ?_
    refine m_get (q := 88) hM 3 fwX9_93 (by decide) dX9_turningAt_85 rfl rfl ?_
    rw [(onlyTC.rfl').1 3 (by decide), hm]
    refine xn_icmp_ge (q := 91) 122 dX9_turningAt_88 (by decide) rfl (by omega) (by omega) (fun hc88 => absurd hc88 (by omega)) (fun hc88 => ?_)
    refine x_aload_n (q := 92) dX9_turningAt_91 rfl rfl ?_
    refine m_get (q := 95) hM 6 fwX9_19 (by decide) dX9_turningAt_92 rfl rfl ?_
    refine xn_iconst (q := 96) 2 dX9_turningAt_95 rfl (by decide) ?_
    refine x_iload_n (q := 97) dX9_turningAt_96 rfl rfl ?_
    refine xn_imul (q := 98) dX9_turningAt_97 rfl ?_
    refine m_zald (q := 99) hM (n := 6) (by decide) dX9_turningAt_98 rfl (by omega) ?_
    rw [(onlyTC.rfl').2.1, hHr hR, hg]
    refine x_if_eq (q := 102) 122 dX9_turningAt_99 (by decide) rfl (fun hc99 => ?_) (fun hc99 => absurd (by decide) hc99)
    refine x_iload_n (q := 123) dX9_turningAt_122 rfl rfl ?_
    refine xn_if_ne (q := 126) 131 dX9_turningAt_123 (by decide) rfl (by omega) (fun hc123 => absurd hc123 (by decide)) (fun hc123 => ?_)
    refine x_iload_n (q := 127) dX9_turningAt_126 rfl rfl ?_
    refine xn_if_ne (q := 130) 131 dX9_turningAt_127 (by decide) rfl (by omega) (fun hc127 => ?_) (fun hc127 => absurd hc127 (by decide))
    refine x_aload_n (q := 132) dX9_turningAt_131 rfl rfl ?_
    refine m_get (q := 135) hM 8 fwX9_26 (by decide) dX9_turningAt_132 rfl rfl ?_
    refine x_iload_n (q := 136) dX9_turningAt_135 rfl rfl ?_
    refine m_zald (q := 137) hM (n := 4) (by decide) dX9_turningAt_136 rfl (by omega) ?_
    rw [(onlyTC.rfl').2.1, hTn, hU]
    refine x_if_eq (q := 140) 186 dX9_turningAt_137 (by decide) rfl (fun hc137 => ?_) (fun hc137 => absurd (by decide) hc137)
    refine x_iload_n (q := 187) dX9_turningAt_186 rfl rfl ?_
    refine xn_if_eq (q := 190) 233 dX9_turningAt_187 (by decide) rfl (by omega) (fun hc187 => ?_) (fun hc187 => absurd hc187 (by decide))
    refine x_iload_n (q := 234) dX9_turningAt_233 rfl rfl ?_
    refine xn_if_eq (q := 237) 245 dX9_turningAt_234 (by decide) rfl (by omega) (fun hc234 => ?_) (fun hc234 => absurd hc234 (by decide))
    refine x_iload_n (q := 246) dX9_turningAt_245 rfl rfl ?_
    refine xn_if_eq (q := 249) 261 dX9_turningAt_246 (by decide) rfl (by omega) (fun hc246 => absurd hc246 (by decide)) (fun hc246 => ?_)
    refine x_aload_n (q := 250) dX9_turningAt_249 rfl rfl ?_
    refine xn_iconst (q := 251) 4 dX9_turningAt_250 rfl (by decide) ?_
    refine x_iload_n (q := 252) dX9_turningAt_251 rfl rfl ?_
    refine xn_imul (q := 253) dX9_turningAt_252 rfl ?_
    refine xn_iconst (q := 254) 2 dX9_turningAt_253 rfl (by decide) ?_
    refine xn_iadd (q := 255) dX9_turningAt_254 rfl ?_
    refine x_ldc2 (q := 258) (-4) dX9_turningAt_255 rfl cwX9_184 ?_
    refine x_topl (y := iL (-4)) (by decide) ?_
    refine m_call (q := 261) (As := [_, _]) hM imX9_term ivX9_term ilX9_term mwX9_149 xciX9 dX9_turningAt_258 rfl rfl rfl (Nat.le_of_ble_eq_true rfl) ?_
    refine (c_term G l o as M0 N S (d + 2) σ (r) (4 * node + 2) _ _ (-4) (by first | rfl | (simp only [lN_i', ← Int64.ofInt_mul, Int.natCast_mul]; rfl)) hr (by omega) hT).mono (fun x σc1 hp => ?_)
    obtain ⟨rfl, qc1, tc1⟩ := hp
    intro M hM
    have oc1 : onlyTC σ σc1 := (onlyTC.rfl').trans qc1.c
    have hrc1 : σc1.1 21 = nI (r) := by rw [qc1.1]; exact hr
    show xX G l _ (d + 3) _ _ _ [] M N S
    refine x_aload_n (q := 262) dX9_turningAt_261 rfl rfl ?_
    refine x_dup (q := 263) dX9_turningAt_262 rfl rfl ?_
    refine m_get (q := 266) hM 21 fwX9_139 (by decide) dX9_turningAt_263 rfl rfl ?_
    rw [hrc1]
    refine xn_iconst (q := 267) 1 dX9_turningAt_266 rfl (by decide) ?_
    refine xn_iadd (q := 268) dX9_turningAt_267 rfl ?_
    refine m_putG (q := 271) hM 21 fwX9_139 (by decide) rfl rfl rfl dX9_turningAt_268 rfl rfl rfl (fun M σ268 a268 e268 b268 hM => ?_)
    have o268 : onlyTC σ σ268 := (oc1).trans (onlyTC.inc a268 b268)
    have t268 := (tc1).same b268
    refine x_vret rfl dX9_turningAt_271 (m_ret hM ⟨rfl, o268, ?_, ?_⟩)
    · simp only [turnP, h0, hR, hl, hg, hU, decide_true, decide_false, Bool.not_true, Bool.not_false, Bool.and_true, Bool.true_and, Bool.and_false, Bool.false_and, Bool.or_true, Bool.true_or, Bool.or_false, Bool.false_or, if_true, if_false, reduceIte, Bool.false_eq_true, Bool.true_eq_false]; exact t268
    · simp only [turnP, h0, hR, hl, hg, hU, decide_true, decide_false, Bool.not_true, Bool.not_false, Bool.and_true, Bool.true_and, Bool.and_false, Bool.false_and, Bool.or_true, Bool.true_or, Bool.or_false, Bool.false_or, if_true, if_false, reduceIte, Bool.false_eq_true, Bool.true_eq_false]; exact e268
  · refine x_iload_n (q := 1) dX9_turningAt_0 rfl rfl ?_
    refine xn_if_le (q := 4) 21 dX9_turningAt_1 (by decide) rfl (by omega) (fun hc1 => ?_) (fun hc1 => absurd hc1 (by omega))
    refine xn_iconst (q := 22) 0 dX9_turningAt_21 rfl (by decide) ?_
    refine x_istore_n (q := 23) (ls' := [(0, _), (1, _), (2, _)]) [1, 2, 0] dX9_turningAt_22 rfl (by decide) rfl ?_
    refine x_iload_n (q := 24) dX9_turningAt_23 rfl rfl ?_
    refine x_aload_n (q := 25) dX9_turningAt_24 rfl rfl ?_
    refine m_get (q := 28) hM 3 fwX9_93 (by decide) dX9_turningAt_25 rfl rfl ?_
    rw [(onlyTC.rfl').1 3 (by decide), hm]
    refine xn_icmp_ge (q := 31) 46 dX9_turningAt_28 (by decide) rfl (by omega) (by omega) (fun hc28 => absurd hc28 (by omega)) (fun hc28 => ?_)
    refine x_aload_n (q := 32) dX9_turningAt_31 rfl rfl ?_
    refine m_get (q := 35) hM 6 fwX9_19 (by decide) dX9_turningAt_32 rfl rfl ?_
    refine xn_iconst (q := 36) 2 dX9_turningAt_35 rfl (by decide) ?_
    refine x_iload_n (q := 37) dX9_turningAt_36 rfl rfl ?_
    refine xn_imul (q := 38) dX9_turningAt_37 rfl ?_
    refine m_zald (q := 39) hM (n := 6) (by decide) dX9_turningAt_38 rfl (by omega) ?_
    rw [(onlyTC.rfl').2.1, hHr hR, hg]
    refine x_if_ne (q := 42) 46 dX9_turningAt_39 (by decide) rfl (fun hc39 => absurd hc39 (by decide)) (fun hc39 => ?_)
    refine xn_iconst (q := 43) 1 dX9_turningAt_42 rfl (by decide) ?_
    refine x_goto 47 dX9_turningAt_43 (by decide) ?_
    refine x_istore_n (q := 48) (ls' := [(0, _), (1, _), (2, _), (3, _)]) [1, 2, 3, 0] dX9_turningAt_47 rfl (by decide) rfl ?_
    refine x_iload_n (q := 49) dX9_turningAt_48 rfl rfl ?_
    refine xn_if_le (q := 52) 83 dX9_turningAt_49 (by decide) rfl (by omega) (fun hc49 => ?_) (fun hc49 => absurd hc49 (by omega))
    refine x_iload_n (q := 84) dX9_turningAt_83 rfl rfl ?_
    refine x_aload_n (q := 85) dX9_turningAt_84 rfl rfl ?_
    refine m_get (q := 88) hM 3 fwX9_93 (by decide) dX9_turningAt_85 rfl rfl ?_
    rw [(onlyTC.rfl').1 3 (by decide), hm]
    refine xn_icmp_ge (q := 91) 122 dX9_turningAt_88 (by decide) rfl (by omega) (by omega) (fun hc88 => absurd hc88 (by omega)) (fun hc88 => ?_)
    refine x_aload_n (q := 92) dX9_turningAt_91 rfl rfl ?_
    refine m_get (q := 95) hM 6 fwX9_19 (by decide) dX9_turningAt_92 rfl rfl ?_
    refine xn_iconst (q := 96) 2 dX9_turningAt_95 rfl (by decide) ?_
    refine x_iload_n (q := 97) dX9_turningAt_96 rfl rfl ?_
    refine xn_imul (q := 98) dX9_turningAt_97 rfl ?_
    refine m_zald (q := 99) hM (n := 6) (by decide) dX9_turningAt_98 rfl (by omega) ?_
    rw [(onlyTC.rfl').2.1, hHr hR, hg]
    refine x_if_eq (q := 102) 122 dX9_turningAt_99 (by decide) rfl (fun hc99 => ?_) (fun hc99 => absurd (by decide) hc99)
    refine x_iload_n (q := 123) dX9_turningAt_122 rfl rfl ?_
    refine xn_if_ne (q := 126) 131 dX9_turningAt_123 (by decide) rfl (by omega) (fun hc123 => absurd hc123 (by decide)) (fun hc123 => ?_)
    refine x_iload_n (q := 127) dX9_turningAt_126 rfl rfl ?_
    refine xn_if_ne (q := 130) 131 dX9_turningAt_127 (by decide) rfl (by omega) (fun hc127 => ?_) (fun hc127 => absurd hc127 (by decide))
    refine x_aload_n (q := 132) dX9_turningAt_131 rfl rfl ?_
    refine m_get (q := 135) hM 8 fwX9_26 (by decide) dX9_turningAt_132 rfl rfl ?_
    refine x_iload_n (q := 136) dX9_turningAt_135 rfl rfl ?_
    refine m_zald (q := 137) hM (n := 4) (by decide) dX9_turningAt_136 rfl (by omega) ?_
    rw [(onlyTC.rfl').2.1, hTn, hU]
    refine x_if_eq (q := 140) 186 dX9_turningAt_137 (by decide) rfl (fun hc137 => absurd hc137 (by decide)) (fun hc137 => ?_)
    refine x_iload_n (q := 141) dX9_turningAt_140 rfl rfl ?_
    refine xn_if_eq (q := 144) 161 dX9_turningAt_141 (by decide) rfl (by omega) (fun hc141 => ?_) (fun hc141 => absurd hc141 (by decide))
    refine x_iload_n (q := 162) dX9_turningAt_161 rfl rfl ?_
    refine xn_if_eq (q := 165) 185 dX9_turningAt_162 (by decide) rfl (by omega) (fun hc162 => absurd hc162 (by decide)) (fun hc162 => ?_)
    refine x_aload_n (q := 166) dX9_turningAt_165 rfl rfl ?_
    refine xn_iconst (q := 167) 4 dX9_turningAt_166 rfl (by decide) ?_
    refine x_iload_n (q := 168) dX9_turningAt_167 rfl rfl ?_
    refine xn_imul (q := 169) dX9_turningAt_168 rfl ?_
    refine xn_iconst (q := 170) 1 dX9_turningAt_169 rfl (by decide) ?_
    refine xn_iadd (q := 171) dX9_turningAt_170 rfl ?_
    refine xn_lconst (q := 172) 1 dX9_turningAt_171 rfl (by decide) ?_
    refine m_call (q := 175) (As := [_, _]) hM imX9_term ivX9_term ilX9_term mwX9_149 xciX9 dX9_turningAt_172 rfl rfl rfl (Nat.le_of_ble_eq_true rfl) ?_
    refine (c_term G l o as M0 N S (d + 2) σ (r) (4 * node + 1) _ _ (1) (by first | rfl | (simp only [lN_i', ← Int64.ofInt_mul, Int.natCast_mul]; rfl)) hr (by omega) hT).mono (fun x σc1 hp => ?_)
    obtain ⟨rfl, qc1, tc1⟩ := hp
    intro M hM
    have oc1 : onlyTC σ σc1 := (onlyTC.rfl').trans qc1.c
    have hrc1 : σc1.1 21 = nI (r) := by rw [qc1.1]; exact hr
    show xX G l _ (d + 3) _ _ _ [] M N S
    refine x_aload_n (q := 176) dX9_turningAt_175 rfl rfl ?_
    refine x_dup (q := 177) dX9_turningAt_176 rfl rfl ?_
    refine m_get (q := 180) hM 21 fwX9_139 (by decide) dX9_turningAt_177 rfl rfl ?_
    rw [hrc1]
    refine xn_iconst (q := 181) 1 dX9_turningAt_180 rfl (by decide) ?_
    refine xn_iadd (q := 182) dX9_turningAt_181 rfl ?_
    refine m_putG (q := 185) hM 21 fwX9_139 (by decide) rfl rfl rfl dX9_turningAt_182 rfl rfl rfl (fun M σ182 a182 e182 b182 hM => ?_)
    have o182 : onlyTC σ σ182 := (oc1).trans (onlyTC.inc a182 b182)
    have t182 := (tc1).same b182
    refine x_vret rfl dX9_turningAt_185 (m_ret hM ⟨rfl, o182, ?_, ?_⟩)
    · simp only [turnP, h0, hR, hl, hg, hU, decide_true, decide_false, Bool.not_true, Bool.not_false, Bool.and_true, Bool.true_and, Bool.and_false, Bool.false_and, Bool.or_true, Bool.true_or, Bool.or_false, Bool.false_or, if_true, if_false, reduceIte, Bool.false_eq_true, Bool.true_eq_false]; exact t182
    · simp only [turnP, h0, hR, hl, hg, hU, decide_true, decide_false, Bool.not_true, Bool.not_false, Bool.and_true, Bool.true_and, Bool.and_false, Bool.false_and, Bool.or_true, Bool.true_or, Bool.or_false, Bool.false_or, if_true, if_false, reduceIte, Bool.false_eq_true, Bool.true_eq_false]; exact e182
  · refine x_iload_n (q := 1) dX9_turningAt_0 rfl rfl ?_
    refine xn_if_le (q := 4) 21 dX9_turningAt_1 (by decide) rfl (by omega) (fun hc1 => ?_) (fun hc1 => absurd hc1 (by omega))
    refine xn_iconst (q := 22) 0 dX9_turningAt_21 rfl (by decide) ?_
    refine x_istore_n (q := 23) (ls' := [(0, _), (1, _), (2, _)]) [1, 2, 0] dX9_turningAt_22 rfl (by decide) rfl ?_
    refine x_iload_n (q := 24) dX9_turningAt_23 rfl rfl ?_
    refine x_aload_n (q := 25) dX9_turningAt_24 rfl rfl ?_
    refine m_get (q := 28) hM 3 fwX9_93 (by decide) dX9_turningAt_25 rfl rfl ?_
    rw [(onlyTC.rfl').1 3 (by decide), hm]
    refine xn_icmp_ge (q := 31) 46 dX9_turningAt_28 (by decide) rfl (by omega) (by omega) (fun hc28 => absurd hc28 (by omega)) (fun hc28 => ?_)
    refine x_aload_n (q := 32) dX9_turningAt_31 rfl rfl ?_
    refine m_get (q := 35) hM 6 fwX9_19 (by decide) dX9_turningAt_32 rfl rfl ?_
    refine xn_iconst (q := 36) 2 dX9_turningAt_35 rfl (by decide) ?_
    refine x_iload_n (q := 37) dX9_turningAt_36 rfl rfl ?_
    refine xn_imul (q := 38) dX9_turningAt_37 rfl ?_
    refine m_zald (q := 39) hM (n := 6) (by decide) dX9_turningAt_38 rfl (by omega) ?_
    rw [(onlyTC.rfl').2.1, hHr hR, hg]
    refine x_if_ne (q := 42) 46 dX9_turningAt_39 (by decide) rfl (fun hc39 => ?_) (fun hc39 => absurd hc39 (by decide))
    refine xn_iconst (q := 47) 0 dX9_turningAt_46 rfl (by decide) ?_
    refine x_istore_n (q := 48) (ls' := [(0, _), (1, _), (2, _), (3, _)]) [1, 2, 3, 0] dX9_turningAt_47 rfl (by decide) rfl ?_
    refine x_iload_n (q := 49) dX9_turningAt_48 rfl rfl ?_
    refine xn_if_le (q := 52) 83 dX9_turningAt_49 (by decide) rfl (by omega) (fun hc49 => ?_) (fun hc49 => absurd hc49 (by omega))
    refine x_iload_n (q := 84) dX9_turningAt_83 rfl rfl ?_
    refine x_aload_n (q := 85) dX9_turningAt_84 rfl rfl ?_
    refine m_get (q := 88) hM 3 fwX9_93 (by decide) dX9_turningAt_85 rfl rfl ?_
    rw [(onlyTC.rfl').1 3 (by decide), hm]
    refine xn_icmp_ge (q := 91) 122 dX9_turningAt_88 (by decide) rfl (by omega) (by omega) (fun hc88 => absurd hc88 (by omega)) (fun hc88 => ?_)
    refine x_aload_n (q := 92) dX9_turningAt_91 rfl rfl ?_
    refine m_get (q := 95) hM 6 fwX9_19 (by decide) dX9_turningAt_92 rfl rfl ?_
    refine xn_iconst (q := 96) 2 dX9_turningAt_95 rfl (by decide) ?_
    refine x_iload_n (q := 97) dX9_turningAt_96 rfl rfl ?_
    refine xn_imul (q := 98) dX9_turningAt_97 rfl ?_
    refine m_zald (q := 99) hM (n := 6) (by decide) dX9_turningAt_98 rfl (by omega) ?_
    rw [(onlyTC.rfl').2.1, hHr hR, hg]
    refine x_if_eq (q := 102) 122 dX9_turningAt_99 (by decide) rfl (fun hc99 => absurd hc99 (by decide)) (fun hc99 => ?_)
    refine x_aload_n (q := 103) dX9_turningAt_102 rfl rfl ?_
    refine xn_iconst (q := 104) 4 dX9_turningAt_103 rfl (by decide) ?_
    refine x_iload_n (q := 105) dX9_turningAt_104 rfl rfl ?_
    refine xn_imul (q := 106) dX9_turningAt_105 rfl ?_
    refine xn_iconst (q := 107) 2 dX9_turningAt_106 rfl (by decide) ?_
    refine xn_iadd (q := 108) dX9_turningAt_107 rfl ?_
    refine xn_lconst (q := 109) 1 dX9_turningAt_108 rfl (by decide) ?_
    refine m_call (q := 112) (As := [_, _]) hM imX9_term ivX9_term ilX9_term mwX9_149 xciX9 dX9_turningAt_109 rfl rfl rfl (Nat.le_of_ble_eq_true rfl) ?_
    refine (c_term G l o as M0 N S (d + 2) σ (r) (4 * node + 2) _ _ (1) (by first | rfl | (simp only [lN_i', ← Int64.ofInt_mul, Int.natCast_mul]; rfl)) hr (by omega) hT).mono (fun x σc1 hp => ?_)
    obtain ⟨rfl, qc1, tc1⟩ := hp
    intro M hM
    have oc1 : onlyTC σ σc1 := (onlyTC.rfl').trans qc1.c
    have hrc1 : σc1.1 21 = nI (r) := by rw [qc1.1]; exact hr
    show xX G l _ (d + 3) _ _ _ [] M N S
    refine x_aload_n (q := 113) dX9_turningAt_112 rfl rfl ?_
    refine x_dup (q := 114) dX9_turningAt_113 rfl rfl ?_
    refine m_get (q := 117) hM 21 fwX9_139 (by decide) dX9_turningAt_114 rfl rfl ?_
    rw [hrc1]
    refine xn_iconst (q := 118) 1 dX9_turningAt_117 rfl (by decide) ?_
    refine xn_iadd (q := 119) dX9_turningAt_118 rfl ?_
    refine m_putG (q := 122) hM 21 fwX9_139 (by decide) rfl rfl rfl dX9_turningAt_119 rfl rfl rfl (fun M σ119 a119 e119 b119 hM => ?_)
    have o119 : onlyTC σ σ119 := (oc1).trans (onlyTC.inc a119 b119)
    have t119 := (tc1).same b119
    refine x_iload_n (q := 123) dX9_turningAt_122 rfl rfl ?_
    refine xn_if_ne (q := 126) 131 dX9_turningAt_123 (by decide) rfl (by omega) (fun hc123 => absurd hc123 (by decide)) (fun hc123 => ?_)
    refine x_iload_n (q := 127) dX9_turningAt_126 rfl rfl ?_
    refine xn_if_ne (q := 130) 131 dX9_turningAt_127 (by decide) rfl (by omega) (fun hc127 => absurd hc127 (by decide)) (fun hc127 => ?_)
    refine x_vret rfl dX9_turningAt_130 (m_ret hM ⟨rfl, o119, ?_, ?_⟩)
    · simp only [turnP, h0, hR, hl, hg, hU, decide_true, decide_false, Bool.not_true, Bool.not_false, Bool.and_true, Bool.true_and, Bool.and_false, Bool.false_and, Bool.or_true, Bool.true_or, Bool.or_false, Bool.false_or, if_true, if_false, reduceIte, Bool.false_eq_true, Bool.true_eq_false]; exact t119
    · simp only [turnP, h0, hR, hl, hg, hU, decide_true, decide_false, Bool.not_true, Bool.not_false, Bool.and_true, Bool.true_and, Bool.and_false, Bool.false_and, Bool.or_true, Bool.true_or, Bool.or_false, Bool.false_or, if_true, if_false, reduceIte, Bool.false_eq_true, Bool.true_eq_false]; exact e119
  · refine x_iload_n (q := 1) dX9_turningAt_0 rfl rfl ?_
    refine xn_if_le (q := 4) 21 dX9_turningAt_1 (by decide) rfl (by omega) (fun hc1 => ?_) (fun hc1 => absurd hc1 (by omega))
    refine xn_iconst (q := 22) 0 dX9_turningAt_21 rfl (by decide) ?_
    refine x_istore_n (q := 23) (ls' := [(0, _), (1, _), (2, _)]) [1, 2, 0] dX9_turningAt_22 rfl (by decide) rfl ?_
    refine x_iload_n (q := 24) dX9_turningAt_23 rfl rfl ?_
    refine x_aload_n (q := 25) dX9_turningAt_24 rfl rfl ?_
    refine m_get (q := 28) hM 3 fwX9_93 (by decide) dX9_turningAt_25 rfl rfl ?_
    rw [(onlyTC.rfl').1 3 (by decide), hm]
    refine xn_icmp_ge (q := 31) 46 dX9_turningAt_28 (by decide) rfl (by omega) (by omega) (fun hc28 => absurd hc28 (by omega)) (fun hc28 => ?_)
    refine x_aload_n (q := 32) dX9_turningAt_31 rfl rfl ?_
    refine m_get (q := 35) hM 6 fwX9_19 (by decide) dX9_turningAt_32 rfl rfl ?_
    refine xn_iconst (q := 36) 2 dX9_turningAt_35 rfl (by decide) ?_
    refine x_iload_n (q := 37) dX9_turningAt_36 rfl rfl ?_
    refine xn_imul (q := 38) dX9_turningAt_37 rfl ?_
    refine m_zald (q := 39) hM (n := 6) (by decide) dX9_turningAt_38 rfl (by omega) ?_
    rw [(onlyTC.rfl').2.1, hHr hR, hg]
    refine x_if_ne (q := 42) 46 dX9_turningAt_39 (by decide) rfl (fun hc39 => ?_) (fun hc39 => absurd hc39 (by decide))
    refine xn_iconst (q := 47) 0 dX9_turningAt_46 rfl (by decide) ?_
    refine x_istore_n (q := 48) (ls' := [(0, _), (1, _), (2, _), (3, _)]) [1, 2, 3, 0] dX9_turningAt_47 rfl (by decide) rfl ?_
    refine x_iload_n (q := 49) dX9_turningAt_48 rfl rfl ?_
    refine xn_if_le (q := 52) 83 dX9_turningAt_49 (by decide) rfl (by omega) (fun hc49 => ?_) (fun hc49 => absurd hc49 (by omega))
    refine x_iload_n (q := 84) dX9_turningAt_83 rfl rfl ?_
    refine x_aload_n (q := 85) dX9_turningAt_84 rfl rfl ?_
    refine m_get (q := 88) hM 3 fwX9_93 (by decide) dX9_turningAt_85 rfl rfl ?_
    rw [(onlyTC.rfl').1 3 (by decide), hm]
    refine xn_icmp_ge (q := 91) 122 dX9_turningAt_88 (by decide) rfl (by omega) (by omega) (fun hc88 => absurd hc88 (by omega)) (fun hc88 => ?_)
    refine x_aload_n (q := 92) dX9_turningAt_91 rfl rfl ?_
    refine m_get (q := 95) hM 6 fwX9_19 (by decide) dX9_turningAt_92 rfl rfl ?_
    refine xn_iconst (q := 96) 2 dX9_turningAt_95 rfl (by decide) ?_
    refine x_iload_n (q := 97) dX9_turningAt_96 rfl rfl ?_
    refine xn_imul (q := 98) dX9_turningAt_97 rfl ?_
    refine m_zald (q := 99) hM (n := 6) (by decide) dX9_turningAt_98 rfl (by omega) ?_
    rw [(onlyTC.rfl').2.1, hHr hR, hg]
    refine x_if_eq (q := 102) 122 dX9_turningAt_99 (by decide) rfl (fun hc99 => absurd hc99 (by decide)) (fun hc99 => ?_)
    refine x_aload_n (q := 103) dX9_turningAt_102 rfl rfl ?_
    refine xn_iconst (q := 104) 4 dX9_turningAt_103 rfl (by decide) ?_
    refine x_iload_n (q := 105) dX9_turningAt_104 rfl rfl ?_
    refine xn_imul (q := 106) dX9_turningAt_105 rfl ?_
    refine xn_iconst (q := 107) 2 dX9_turningAt_106 rfl (by decide) ?_
    refine xn_iadd (q := 108) dX9_turningAt_107 rfl ?_
    refine xn_lconst (q := 109) 1 dX9_turningAt_108 rfl (by decide) ?_
    refine m_call (q := 112) (As := [_, _]) hM imX9_term ivX9_term ilX9_term mwX9_149 xciX9 dX9_turningAt_109 rfl rfl rfl (Nat.le_of_ble_eq_true rfl) ?_
    refine (c_term G l o as M0 N S (d + 2) σ (r) (4 * node + 2) _ _ (1) (by first | rfl | (simp only [lN_i', ← Int64.ofInt_mul, Int.natCast_mul]; rfl)) hr (by omega) hT).mono (fun x σc1 hp => ?_)
    obtain ⟨rfl, qc1, tc1⟩ := hp
    intro M hM
    have oc1 : onlyTC σ σc1 := (onlyTC.rfl').trans qc1.c
    have hrc1 : σc1.1 21 = nI (r) := by rw [qc1.1]; exact hr
    show xX G l _ (d + 3) _ _ _ [] M N S
    refine x_aload_n (q := 113) dX9_turningAt_112 rfl rfl ?_
    refine x_dup (q := 114) dX9_turningAt_113 rfl rfl ?_
    refine m_get (q := 117) hM 21 fwX9_139 (by decide) dX9_turningAt_114 rfl rfl ?_
    rw [hrc1]
    refine xn_iconst (q := 118) 1 dX9_turningAt_117 rfl (by decide) ?_
    refine xn_iadd (q := 119) dX9_turningAt_118 rfl ?_
    refine m_putG (q := 122) hM 21 fwX9_139 (by decide) rfl rfl rfl dX9_turningAt_119 rfl rfl rfl (fun M σ119 a119 e119 b119 hM => ?_)
    have o119 : onlyTC σ σ119 := (oc1).trans (onlyTC.inc a119 b119)
    have t119 := (tc1).same b119
    refine x_iload_n (q := 123) dX9_turningAt_122 rfl rfl ?_
    refine xn_if_ne (q := 126) 131 dX9_turningAt_123 (by decide) rfl (by omega) (fun hc123 => absurd hc123 (by decide)) (fun hc123 => ?_)
    refine x_iload_n (q := 127) dX9_turningAt_126 rfl rfl ?_
    refine xn_if_ne (q := 130) 131 dX9_turningAt_127 (by decide) rfl (by omega) (fun hc127 => absurd hc127 (by decide)) (fun hc127 => ?_)
    refine x_vret rfl dX9_turningAt_130 (m_ret hM ⟨rfl, o119, ?_, ?_⟩)
    · simp only [turnP, h0, hR, hl, hg, hU, decide_true, decide_false, Bool.not_true, Bool.not_false, Bool.and_true, Bool.true_and, Bool.and_false, Bool.false_and, Bool.or_true, Bool.true_or, Bool.or_false, Bool.false_or, if_true, if_false, reduceIte, Bool.false_eq_true, Bool.true_eq_false]; exact t119
    · simp only [turnP, h0, hR, hl, hg, hU, decide_true, decide_false, Bool.not_true, Bool.not_false, Bool.and_true, Bool.true_and, Bool.and_false, Bool.false_and, Bool.or_true, Bool.true_or, Bool.or_false, Bool.false_or, if_true, if_false, reduceIte, Bool.false_eq_true, Bool.true_eq_false]; exact e119
  · exact absurd hR (by omega)
  · exact absurd hR (by omega)
  · exact absurd hR (by omega)
  · exact absurd hR (by omega)
  · exact absurd hR (by omega)
  · exact absurd hR (by omega)
  · exact absurd hR (by omega)
  · exact absurd hR (by omega)
end XH
