section XH
section
variable {G : xG} {l : Launch} {Y : xY} {d : Nat} {Q : xPost} {pc q : Nat} {ls : List (Nat × Value)} {st : List Value} {M M0 : xM} {N S : Nat} {o : Nat} {as : Nat → Nat} {σ : mS}
theorem m_putG {index : Nat} {v : Int32} {ty : FieldType} (hM : mAt o as σ M0 M) (k : Nat) (hw : Cond.fieldLink Y.1.cls index (TX9 k).1 (TX9 k).2.1 (TX9 k).2.2.1 ∈ xW) (hk : k < 38) (hfin : (TX9 k).2.2.2 = false) (hty : parseFieldDescriptor (TX9 k).2.2.1 = some ty) (hs : (mF as σ.1).set k (.int v) = mF as (mu σ.1 k v)) (hd : decode Y.2.1 pc = .ok (.putfield index, 3)) (hq : pc + 3 = q) (hn : narrow ty (.int v) = .int v) (hfit : fits ty (.int v) = true) (kk : ∀ (M' : xM) (σ' : mS), (∀ i, i ≠ k → σ'.1 i = σ.1 i) → σ'.1 k = v → σ'.2 = σ.2 → mAt o as σ' M0 M' → xX G l Y d Q q ls st M' N S) : xX G l Y d Q pc ls (.int v :: .ref o :: st) M N S :=
  m_put hM k hw hk hfin hty hs hd hq hn hfit (fun M' hM' => kk M' (mu σ.1 k v, σ.2) (fun i hi => mu_n hi) (mu_s _ _ _) rfl hM')
end
def onlyTC (σ σ' : mS) : Prop := (∀ k, k ≠ 21 → σ'.1 k = σ.1 k) ∧ σ'.2.1 = σ.2.1 ∧ ∀ k, k ≠ 20 → σ'.2.2 k = σ.2.2 k
theorem onlyTC.rfl' {σ : mS} : onlyTC σ σ := ⟨fun _ _ => rfl, rfl, fun _ _ => rfl⟩
theorem onlyTC.trans {σ σ' σ'' : mS} (h : onlyTC σ σ') (h2 : onlyTC σ' σ'') : onlyTC σ σ'' := ⟨fun k hk => (h2.1 k hk).trans (h.1 k hk), h2.2.1.trans h.2.1, fun k hk => (h2.2.2 k hk).trans (h.2.2 k hk)⟩
theorem onlyT.c {σ σ' : mS} (h : onlyT σ σ') : onlyTC σ σ' := ⟨fun k _ => by rw [h.1], h.2.1, h.2.2⟩
theorem onlyTC.inc {σ σ' : mS} (a : ∀ i, i ≠ 21 → σ'.1 i = σ.1 i) (b : σ'.2 = σ.2) : onlyTC σ σ' := ⟨a, by rw [b], fun k _ => by rw [b]⟩
theorem onlyTC.cf {σ σ' : mS} {c : mCf} (h : onlyTC σ σ') (hc : Cf σ c) : Cf σ' c := by
  unfold Cf at *
  rw [h.1 3 (by decide), h.2.1]
  exact hc
theorem Td.same {σ σ' : mS} {T : Nat → Int} (h : Td σ T) (b : σ'.2 = σ.2) : Td σ' T := fun j hj => by rw [b]; exact h j hj
theorem bI_eq {b : Bool} : bI b = 0 ↔ b = false := by cases b <;> decide
def heightP (c : mCf) (T : Nat → Int) (r node : Nat) : (Nat → Int) × Nat :=
  let A : (Nat → Int) × Nat := if 0 < node ∧ node < c.m then (addT (rMoveP c r T (node - 1)) (28 * r + 4 * node) (-384 * c.E (node - 1)), r + 1) else (T, r)
  let B : Nat → Int := if c.Hi node = true then
      (if node < c.m then addT (addT A.1 (28 * A.2 + 4 * node) 1) (28 * A.2 + 9 * c.m) (c.Se node) else addT (rMoveP c A.2 A.1 (node - 1)) (28 * A.2 + 9 * c.m) (384 * c.E (node - 1) * c.Se node))
    else
      (let C := if node < c.m then addT (addT A.1 (28 * A.2 + (4 * node + 3)) 1) (28 * A.2 + colP c node 0) (-1) else A.1
       if 0 < node then addT (loadsP c A.2 (addT C (28 * A.2 + (4 * node - 1)) (-1)) (node - 1) 0 1) (28 * A.2 + colP c (node - 1) 4) (-1) else C)
  (B, A.2 + 1)
def turnP (c : mCf) (T : Nat → Int) (r node : Nat) : (Nat → Int) × Nat :=
  let lf : Bool := decide (0 < node) && !c.Hg (2 * node - 1)
  let rt : Bool := decide (node < c.m) && !c.Hg (2 * node)
  let A : (Nat → Int) × Nat := if (decide (0 < node) && c.Hg (2 * node - 1)) = true then (rMomP c r T (node - 1) 1, r + 1) else (T, r)
  let B : (Nat → Int) × Nat := if (decide (node < c.m) && c.Hg (2 * node)) = true then (addT A.1 (28 * A.2 + (4 * node + 2)) 1, A.2 + 1) else A
  if (lf || rt) = false then B
  else if c.Tu node = true then
    (let C : (Nat → Int) × Nat := if lf = true then (rTurnP c B.2 B.1 (node - 1), B.2 + 1) else B
     if rt = true then (addT C.1 (28 * C.2 + (4 * node + 1)) 1, C.2 + 1) else C)
  else
    (let C : (Nat → Int) × Nat := if (lf && rt) = true then (addT (rTurnP c B.2 B.1 (node - 1)) (28 * B.2 + (4 * node + 1)) (-32 * c.E (node - 1)), B.2 + 1) else B
     let D : Nat → Int := if lf = true then rMomP c C.2 C.1 (node - 1) 1 else C.1
     let F : Nat → Int := if rt = true then addT D (28 * C.2 + (4 * node + 2)) (-4) else D
     (F, C.2 + 1))
set_option maxRecDepth 100000 in
set_option maxHeartbeats 4000000 in
theorem c_heightAt (G : xG) (l : Launch) (o : Nat) (as : Nat → Nat) (M0 : xM) (N S : Nat) (d : Nat) (σ : mS) (c : mCf) (r node : Nat) (T : Nat → Int) (hc : Cf σ c) (hr : σ.1 21 = nI r) (hr2 : r ≤ 10) (hr3 : 0 < node → node < c.m → r ≤ 8) (hnode : node ≤ c.m) (hT : Td σ T) : mC G l o as M0 N S YX9_heightAt (d + 3) [.int (nI node)] σ (fun x σ' => x = none ∧ onlyTC σ σ' ∧ Td σ' (heightP c T r node).1 ∧ σ'.1 21 = nI (heightP c T r node).2) := by
  obtain ⟨ok, hm, hL, hE, hH, hHi, hTu, hSe⟩ := id hc
  obtain ⟨m1, m3, okL, okE, okS⟩ := ok
  have hHn := hHi node (by omega)
  have hSn := hSe node (by omega)
  have okSn := okS node (by omega)
  have hE1 := hE (node - 1) (by omega)
  have okE1 := okE (node - 1) (by omega)
  refine mC.of (ls := [(0, .ref o), (1, .int (nI node))]) (by decide) (Nat.le_of_ble_eq_true rfl) rfl fun M hM => ?_
  by_cases h0 : 0 < node <;> by_cases hR : node < c.m <;> cases hB : c.Hi node
  · refine x_iload_n (q := 1) dX9_heightAt_0 rfl rfl ?_
    refine x_aload_n (q := 2) dX9_heightAt_1 rfl rfl ?_
    refine m_get (q := 5) hM 3 fwX9_93 (by decide) dX9_heightAt_2 rfl rfl ?_
    rw [(onlyTC.rfl').1 3 (by decide), hm]
    refine xn_icmp_ge (q := 8) 12 dX9_heightAt_5 (by decide) rfl (by omega) (by omega) (fun hc5 => absurd hc5 (by omega)) (fun hc5 => ?_)
    refine xn_iconst (q := 9) 1 dX9_heightAt_8 rfl (by decide) ?_
    refine x_goto 13 dX9_heightAt_9 (by decide) ?_
    refine x_istore_n (q := 14) (ls' := [(0, _), (1, _), (2, _)]) [1, 2, 0] dX9_heightAt_13 rfl (by decide) rfl ?_
    refine x_iload_n (q := 15) dX9_heightAt_14 rfl rfl ?_
    refine xn_if_le (q := 18) 59 dX9_heightAt_15 (by decide) rfl (by omega) (fun hc15 => absurd hc15 (by omega)) (fun hc15 => ?_)
    refine x_iload_n (q := 19) dX9_heightAt_18 rfl rfl ?_
    refine xn_if_eq (q := 22) 59 dX9_heightAt_19 (by decide) rfl (by omega) (fun hc19 => absurd hc19 (by decide)) (fun hc19 => ?_)
    refine x_aload_n (q := 23) dX9_heightAt_22 rfl rfl ?_
    refine x_iload_n (q := 24) dX9_heightAt_23 rfl rfl ?_
    refine xn_iconst (q := 25) 1 dX9_heightAt_24 rfl (by decide) ?_
    refine xn_isub (q := 26) dX9_heightAt_25 rfl (by omega) ?_
    refine m_call (q := 29) (As := [_]) hM imX9_rightMove ivX9_rightMove ilX9_rightMove mwX9_166 xciX9 dX9_heightAt_26 rfl rfl rfl (Nat.le_of_ble_eq_true rfl) ?_
    refine (c_rightMove G l o as M0 N S d σ c (r) (node - 1) _ ((onlyTC.rfl').cf hc) hr (by omega) (by omega) hT).mono (fun x σc1 hp => ?_)
    obtain ⟨rfl, qc1, tc1⟩ := hp
    intro M hM
    have oc1 : onlyTC σ σc1 := (onlyTC.rfl').trans qc1.c
    have hrc1 : σc1.1 21 = nI (r) := by rw [qc1.1]; exact hr
    show xX G l _ (d + 3) _ _ _ [] M N S
    refine x_aload_n (q := 30) dX9_heightAt_29 rfl rfl ?_
    refine xn_iconst (q := 31) 4 dX9_heightAt_30 rfl (by decide) ?_
    refine x_iload_n (q := 32) dX9_heightAt_31 rfl rfl ?_
    refine xn_imul (q := 33) dX9_heightAt_32 rfl ?_
    refine x_ldc2 (q := 36) (-384) dX9_heightAt_33 rfl cwX9_170 ?_
    refine x_topl (y := iL (-384)) (by decide) ?_
    refine x_aload_n (q := 37) dX9_heightAt_36 rfl rfl ?_
    refine m_get (q := 40) hM 5 fwX9_16 (by decide) dX9_heightAt_37 rfl rfl ?_
    refine x_iload_n (q := 41) dX9_heightAt_40 rfl rfl ?_
    refine xn_iconst (q := 42) 1 dX9_heightAt_41 rfl (by decide) ?_
    refine xn_isub (q := 43) dX9_heightAt_42 rfl (by omega) ?_
    refine m_iald (q := 44) hM (n := 3) (by decide) dX9_heightAt_43 rfl (by omega) ?_
    rw [(oc1).2.1, hE1]
    refine xn_i2l (q := 45) dX9_heightAt_44 rfl (by omega) ?_
    refine xi_lmul (q := 46) dX9_heightAt_45 rfl rfl (lN_i' _) ?_
    refine m_call (q := 49) (As := [_, _]) hM imX9_term ivX9_term ilX9_term mwX9_149 xciX9 dX9_heightAt_46 rfl rfl rfl (Nat.le_of_ble_eq_true rfl) ?_
    refine (c_term G l o as M0 N S (d + 2) σc1 (r) (4 * node) _ _ (-384 * c.E (node - 1)) (by first | rfl | (simp only [lN_i', ← Int64.ofInt_mul, Int.natCast_mul]; rfl)) hrc1 (by omega) tc1).mono (fun x σc2 hp => ?_)
    obtain ⟨rfl, qc2, tc2⟩ := hp
    intro M hM
    have oc2 : onlyTC σ σc2 := (oc1).trans qc2.c
    have hrc2 : σc2.1 21 = nI (r) := by rw [qc2.1]; exact hrc1
    show xX G l _ (d + 3) _ _ _ [] M N S
    refine x_aload_n (q := 50) dX9_heightAt_49 rfl rfl ?_
    refine x_dup (q := 51) dX9_heightAt_50 rfl rfl ?_
    refine m_get (q := 54) hM 21 fwX9_139 (by decide) dX9_heightAt_51 rfl rfl ?_
    rw [hrc2]
    refine xn_iconst (q := 55) 1 dX9_heightAt_54 rfl (by decide) ?_
    refine xn_iadd (q := 56) dX9_heightAt_55 rfl ?_
    refine m_putG (q := 59) hM 21 fwX9_139 (by decide) rfl rfl rfl dX9_heightAt_56 rfl rfl rfl (fun M σ56 a56 e56 b56 hM => ?_)
    have o56 : onlyTC σ σ56 := (oc2).trans (onlyTC.inc a56 b56)
    have t56 := (tc2).same b56
    refine x_aload_n (q := 60) dX9_heightAt_59 rfl rfl ?_
    refine m_get (q := 63) hM 7 fwX9_23 (by decide) dX9_heightAt_60 rfl rfl ?_
    refine x_iload_n (q := 64) dX9_heightAt_63 rfl rfl ?_
    refine m_zald (q := 65) hM (n := 4) (by decide) dX9_heightAt_64 rfl (by omega) ?_
    rw [(o56).2.1, hHn, hB]
    refine x_if_eq (q := 68) 137 dX9_heightAt_65 (by decide) rfl (fun hc65 => ?_) (fun hc65 => absurd rfl hc65)
    refine x_iload_n (q := 138) dX9_heightAt_137 rfl rfl ?_
    refine xn_if_eq (q := 141) 164 dX9_heightAt_138 (by decide) rfl (by omega) (fun hc138 => absurd hc138 (by decide)) (fun hc138 => ?_)
    refine x_aload_n (q := 142) dX9_heightAt_141 rfl rfl ?_
    refine xn_iconst (q := 143) 4 dX9_heightAt_142 rfl (by decide) ?_
    refine x_iload_n (q := 144) dX9_heightAt_143 rfl rfl ?_
    refine xn_imul (q := 145) dX9_heightAt_144 rfl ?_
    refine xn_iconst (q := 146) 3 dX9_heightAt_145 rfl (by decide) ?_
    refine xn_iadd (q := 147) dX9_heightAt_146 rfl ?_
    refine xn_lconst (q := 148) 1 dX9_heightAt_147 rfl (by decide) ?_
    refine m_call (q := 151) (As := [_, _]) hM imX9_term ivX9_term ilX9_term mwX9_149 xciX9 dX9_heightAt_148 rfl rfl rfl (Nat.le_of_ble_eq_true rfl) ?_
    refine (c_term G l o as M0 N S (d + 2) σ56 (r + 1) (4 * node + 3) _ _ (1) (by first | rfl | (simp only [lN_i', ← Int64.ofInt_mul, Int.natCast_mul]; rfl)) e56 (by omega) t56).mono (fun x σc3 hp => ?_)
    obtain ⟨rfl, qc3, tc3⟩ := hp
    intro M hM
    have oc3 : onlyTC σ σc3 := (o56).trans qc3.c
    have hrc3 : σc3.1 21 = nI (r + 1) := by rw [qc3.1]; exact e56
    show xX G l _ (d + 3) _ _ _ [] M N S
    refine x_aload_n (q := 152) dX9_heightAt_151 rfl rfl ?_
    refine x_aload_n (q := 153) dX9_heightAt_152 rfl rfl ?_
    refine x_iload_n (q := 154) dX9_heightAt_153 rfl rfl ?_
    refine xn_iconst (q := 155) 0 dX9_heightAt_154 rfl (by decide) ?_
    refine m_call (q := 158) (As := [_, _]) hM imX9_column ivX9_column ilX9_column mwX9_144 xciX9 dX9_heightAt_155 rfl rfl rfl (Nat.le_of_ble_eq_true rfl) ?_
    refine (c_column G l o as M0 N S (d + 2) σc3 c.m (node) (0) (by rw [(oc3).1 3 (by decide)]; exact hm)).mono (fun x σ9 hp => ?_)
    obtain ⟨rfl, e9⟩ := hp
    intro M hM
    rw [e9] at hM
    clear e9 σ9
    show xX G l _ (d + 3) _ _ _ [.int (nI (4 * c.m + 5 * (node) + (0))), .ref o] M N S
    refine x_ldc2 (q := 161) (-1) dX9_heightAt_158 rfl cwX9_176 ?_
    refine x_topl (y := iL (-1)) (by decide) ?_
    refine m_call (q := 164) (As := [_, _]) hM imX9_term ivX9_term ilX9_term mwX9_149 xciX9 dX9_heightAt_161 rfl rfl rfl (Nat.le_of_ble_eq_true rfl) ?_
    refine (c_term G l o as M0 N S (d + 2) σc3 (r + 1) (4 * c.m + 5 * node + 0) _ _ (-1) (by first | rfl | (simp only [lN_i', ← Int64.ofInt_mul, Int.natCast_mul]; rfl)) hrc3 (by omega) tc3).mono (fun x σc4 hp => ?_)
    obtain ⟨rfl, qc4, tc4⟩ := hp
    intro M hM
    have oc4 : onlyTC σ σc4 := (oc3).trans qc4.c
    have hrc4 : σc4.1 21 = nI (r + 1) := by rw [qc4.1]; exact hrc3
    show xX G l _ (d + 3) _ _ _ [] M N S
    refine x_iload_n (q := 165) dX9_heightAt_164 rfl rfl ?_
    refine xn_if_le (q := 168) 204 dX9_heightAt_165 (by decide) rfl (by omega) (fun hc165 => absurd hc165 (by omega)) (fun hc165 => ?_)
    refine x_aload_n (q := 169) dX9_heightAt_168 rfl rfl ?_
    refine xn_iconst (q := 170) 4 dX9_heightAt_169 rfl (by decide) ?_
    refine x_iload_n (q := 171) dX9_heightAt_170 rfl rfl ?_
    refine xn_imul (q := 172) dX9_heightAt_171 rfl ?_
    refine xn_iconst (q := 173) 1 dX9_heightAt_172 rfl (by decide) ?_
    refine xn_isub (q := 174) dX9_heightAt_173 rfl (by omega) ?_
    refine x_ldc2 (q := 177) (-1) dX9_heightAt_174 rfl cwX9_176 ?_
    refine x_topl (y := iL (-1)) (by decide) ?_
    refine m_call (q := 180) (As := [_, _]) hM imX9_term ivX9_term ilX9_term mwX9_149 xciX9 dX9_heightAt_177 rfl rfl rfl (Nat.le_of_ble_eq_true rfl) ?_
    refine (c_term G l o as M0 N S (d + 2) σc4 (r + 1) (4 * node - 1) _ _ (-1) (by first | rfl | (simp only [lN_i', ← Int64.ofInt_mul, Int.natCast_mul]; rfl)) hrc4 (by omega) tc4).mono (fun x σc5 hp => ?_)
    obtain ⟨rfl, qc5, tc5⟩ := hp
    intro M hM
    have oc5 : onlyTC σ σc5 := (oc4).trans qc5.c
    have hrc5 : σc5.1 21 = nI (r + 1) := by rw [qc5.1]; exact hrc4
    show xX G l _ (d + 3) _ _ _ [] M N S
    refine x_aload_n (q := 181) dX9_heightAt_180 rfl rfl ?_
    refine x_iload_n (q := 182) dX9_heightAt_181 rfl rfl ?_
    refine xn_iconst (q := 183) 1 dX9_heightAt_182 rfl (by decide) ?_
    refine xn_isub (q := 184) dX9_heightAt_183 rfl (by omega) ?_
    refine xn_iconst (q := 185) 0 dX9_heightAt_184 rfl (by decide) ?_
    refine xn_lconst (q := 186) 1 dX9_heightAt_185 rfl (by decide) ?_
    refine m_call (q := 189) (As := [_, _, _]) hM imX9_loads ivX9_loads ilX9_loads mwX9_156 xciX9 dX9_heightAt_186 rfl rfl rfl (Nat.le_of_ble_eq_true rfl) ?_
    refine (c_loads G l o as M0 N S (d + 1) σc5 c (r + 1) (node - 1) 0 _ _ (1) rfl ((oc5).cf hc) hrc5 (by omega) (by omega) (by decide) tc5).mono (fun x σc6 hp => ?_)
    obtain ⟨rfl, qc6, tc6⟩ := hp
    intro M hM
    have oc6 : onlyTC σ σc6 := (oc5).trans qc6.c
    have hrc6 : σc6.1 21 = nI (r + 1) := by rw [qc6.1]; exact hrc5
    show xX G l _ (d + 3) _ _ _ [] M N S
    refine x_aload_n (q := 190) dX9_heightAt_189 rfl rfl ?_
    refine x_aload_n (q := 191) dX9_heightAt_190 rfl rfl ?_
    refine x_iload_n (q := 192) dX9_heightAt_191 rfl rfl ?_
    refine xn_iconst (q := 193) 1 dX9_heightAt_192 rfl (by decide) ?_
    refine xn_isub (q := 194) dX9_heightAt_193 rfl (by omega) ?_
    refine xn_iconst (q := 195) 4 dX9_heightAt_194 rfl (by decide) ?_
    refine m_call (q := 198) (As := [_, _]) hM imX9_column ivX9_column ilX9_column mwX9_144 xciX9 dX9_heightAt_195 rfl rfl rfl (Nat.le_of_ble_eq_true rfl) ?_
    refine (c_column G l o as M0 N S (d + 2) σc6 c.m (node - 1) (4) (by rw [(oc6).1 3 (by decide)]; exact hm)).mono (fun x σ9 hp => ?_)
    obtain ⟨rfl, e9⟩ := hp
    intro M hM
    rw [e9] at hM
    clear e9 σ9
    show xX G l _ (d + 3) _ _ _ [.int (nI (4 * c.m + 5 * (node - 1) + (4))), .ref o] M N S
    refine x_ldc2 (q := 201) (-1) dX9_heightAt_198 rfl cwX9_176 ?_
    refine x_topl (y := iL (-1)) (by decide) ?_
    refine m_call (q := 204) (As := [_, _]) hM imX9_term ivX9_term ilX9_term mwX9_149 xciX9 dX9_heightAt_201 rfl rfl rfl (Nat.le_of_ble_eq_true rfl) ?_
    refine (c_term G l o as M0 N S (d + 2) σc6 (r + 1) (4 * c.m + 5 * (node - 1) + 4) _ _ (-1) (by first | rfl | (simp only [lN_i', ← Int64.ofInt_mul, Int.natCast_mul]; rfl)) hrc6 (by omega) tc6).mono (fun x σc7 hp => ?_)
    obtain ⟨rfl, qc7, tc7⟩ := hp
    intro M hM
    have oc7 : onlyTC σ σc7 := (oc6).trans qc7.c
    have hrc7 : σc7.1 21 = nI (r + 1) := by rw [qc7.1]; exact hrc6
    show xX G l _ (d + 3) _ _ _ [] M N S
    refine x_aload_n (q := 205) dX9_heightAt_204 rfl rfl ?_
    refine x_dup (q := 206) dX9_heightAt_205 rfl rfl ?_
    refine m_get (q := 209) hM 21 fwX9_139 (by decide) dX9_heightAt_206 rfl rfl ?_
    rw [hrc7]
    refine xn_iconst (q := 210) 1 dX9_heightAt_209 rfl (by decide) ?_
    refine xn_iadd (q := 211) dX9_heightAt_210 rfl ?_
    refine m_putG (q := 214) hM 21 fwX9_139 (by decide) rfl rfl rfl dX9_heightAt_211 rfl rfl rfl (fun M σ211 a211 e211 b211 hM => ?_)
    have o211 : onlyTC σ σ211 := (oc7).trans (onlyTC.inc a211 b211)
    have t211 := (tc7).same b211
    refine x_vret rfl dX9_heightAt_214 (m_ret hM ⟨rfl, o211, ?_, ?_⟩)
    · simp only [heightP, h0, hR, hB, and_self, and_true, true_and, and_false, false_and, if_true, if_false, reduceIte, Bool.false_eq_true]; exact t211
    · simp only [heightP, h0, hR, hB, and_self, and_true, true_and, and_false, false_and, if_true, if_false, reduceIte, Bool.false_eq_true]; exact e211
  · refine x_iload_n (q := 1) dX9_heightAt_0 rfl rfl ?_
    refine x_aload_n (q := 2) dX9_heightAt_1 rfl rfl ?_
    refine m_get (q := 5) hM 3 fwX9_93 (by decide) dX9_heightAt_2 rfl rfl ?_
    rw [(onlyTC.rfl').1 3 (by decide), hm]
    refine xn_icmp_ge (q := 8) 12 dX9_heightAt_5 (by decide) rfl (by omega) (by omega) (fun hc5 => absurd hc5 (by omega)) (fun hc5 => ?_)
    refine xn_iconst (q := 9) 1 dX9_heightAt_8 rfl (by decide) ?_
    refine x_goto 13 dX9_heightAt_9 (by decide) ?_
    refine x_istore_n (q := 14) (ls' := [(0, _), (1, _), (2, _)]) [1, 2, 0] dX9_heightAt_13 rfl (by decide) rfl ?_
    refine x_iload_n (q := 15) dX9_heightAt_14 rfl rfl ?_
    refine xn_if_le (q := 18) 59 dX9_heightAt_15 (by decide) rfl (by omega) (fun hc15 => absurd hc15 (by omega)) (fun hc15 => ?_)
    refine x_iload_n (q := 19) dX9_heightAt_18 rfl rfl ?_
    refine xn_if_eq (q := 22) 59 dX9_heightAt_19 (by decide) rfl (by omega) (fun hc19 => absurd hc19 (by decide)) (fun hc19 => ?_)
    refine x_aload_n (q := 23) dX9_heightAt_22 rfl rfl ?_
    refine x_iload_n (q := 24) dX9_heightAt_23 rfl rfl ?_
    refine xn_iconst (q := 25) 1 dX9_heightAt_24 rfl (by decide) ?_
    refine xn_isub (q := 26) dX9_heightAt_25 rfl (by omega) ?_
    refine m_call (q := 29) (As := [_]) hM imX9_rightMove ivX9_rightMove ilX9_rightMove mwX9_166 xciX9 dX9_heightAt_26 rfl rfl rfl (Nat.le_of_ble_eq_true rfl) ?_
    refine (c_rightMove G l o as M0 N S d σ c (r) (node - 1) _ ((onlyTC.rfl').cf hc) hr (by omega) (by omega) hT).mono (fun x σc1 hp => ?_)
    obtain ⟨rfl, qc1, tc1⟩ := hp
    intro M hM
    have oc1 : onlyTC σ σc1 := (onlyTC.rfl').trans qc1.c
    have hrc1 : σc1.1 21 = nI (r) := by rw [qc1.1]; exact hr
    show xX G l _ (d + 3) _ _ _ [] M N S
    refine x_aload_n (q := 30) dX9_heightAt_29 rfl rfl ?_
    refine xn_iconst (q := 31) 4 dX9_heightAt_30 rfl (by decide) ?_
    refine x_iload_n (q := 32) dX9_heightAt_31 rfl rfl ?_
    refine xn_imul (q := 33) dX9_heightAt_32 rfl ?_
    refine x_ldc2 (q := 36) (-384) dX9_heightAt_33 rfl cwX9_170 ?_
    refine x_topl (y := iL (-384)) (by decide) ?_
    refine x_aload_n (q := 37) dX9_heightAt_36 rfl rfl ?_
    refine m_get (q := 40) hM 5 fwX9_16 (by decide) dX9_heightAt_37 rfl rfl ?_
    refine x_iload_n (q := 41) dX9_heightAt_40 rfl rfl ?_
    refine xn_iconst (q := 42) 1 dX9_heightAt_41 rfl (by decide) ?_
    refine xn_isub (q := 43) dX9_heightAt_42 rfl (by omega) ?_
    refine m_iald (q := 44) hM (n := 3) (by decide) dX9_heightAt_43 rfl (by omega) ?_
    rw [(oc1).2.1, hE1]
    refine xn_i2l (q := 45) dX9_heightAt_44 rfl (by omega) ?_
    refine xi_lmul (q := 46) dX9_heightAt_45 rfl rfl (lN_i' _) ?_
    refine m_call (q := 49) (As := [_, _]) hM imX9_term ivX9_term ilX9_term mwX9_149 xciX9 dX9_heightAt_46 rfl rfl rfl (Nat.le_of_ble_eq_true rfl) ?_
    refine (c_term G l o as M0 N S (d + 2) σc1 (r) (4 * node) _ _ (-384 * c.E (node - 1)) (by first | rfl | (simp only [lN_i', ← Int64.ofInt_mul, Int.natCast_mul]; rfl)) hrc1 (by omega) tc1).mono (fun x σc2 hp => ?_)
    obtain ⟨rfl, qc2, tc2⟩ := hp
    intro M hM
    have oc2 : onlyTC σ σc2 := (oc1).trans qc2.c
    have hrc2 : σc2.1 21 = nI (r) := by rw [qc2.1]; exact hrc1
    show xX G l _ (d + 3) _ _ _ [] M N S
    refine x_aload_n (q := 50) dX9_heightAt_49 rfl rfl ?_
    refine x_dup (q := 51) dX9_heightAt_50 rfl rfl ?_
    refine m_get (q := 54) hM 21 fwX9_139 (by decide) dX9_heightAt_51 rfl rfl ?_
    rw [hrc2]
    refine xn_iconst (q := 55) 1 dX9_heightAt_54 rfl (by decide) ?_
    refine xn_iadd (q := 56) dX9_heightAt_55 rfl ?_
    refine m_putG (q := 59) hM 21 fwX9_139 (by decide) rfl rfl rfl dX9_heightAt_56 rfl rfl rfl (fun M σ56 a56 e56 b56 hM => ?_)
    have o56 : onlyTC σ σ56 := (oc2).trans (onlyTC.inc a56 b56)
    have t56 := (tc2).same b56
    refine x_aload_n (q := 60) dX9_heightAt_59 rfl rfl ?_
    refine m_get (q := 63) hM 7 fwX9_23 (by decide) dX9_heightAt_60 rfl rfl ?_
    refine x_iload_n (q := 64) dX9_heightAt_63 rfl rfl ?_
    refine m_zald (q := 65) hM (n := 4) (by decide) dX9_heightAt_64 rfl (by omega) ?_
    rw [(o56).2.1, hHn, hB]
    refine x_if_eq (q := 68) 137 dX9_heightAt_65 (by decide) rfl (fun hc65 => absurd hc65 (by decide)) (fun hc65 => ?_)
    refine x_iload_n (q := 69) dX9_heightAt_68 rfl rfl ?_
    refine xn_if_eq (q := 72) 98 dX9_heightAt_69 (by decide) rfl (by omega) (fun hc69 => absurd hc69 (by decide)) (fun hc69 => ?_)
    refine x_aload_n (q := 73) dX9_heightAt_72 rfl rfl ?_
    refine xn_iconst (q := 74) 4 dX9_heightAt_73 rfl (by decide) ?_
    refine x_iload_n (q := 75) dX9_heightAt_74 rfl rfl ?_
    refine xn_imul (q := 76) dX9_heightAt_75 rfl ?_
    refine xn_lconst (q := 77) 1 dX9_heightAt_76 rfl (by decide) ?_
    refine m_call (q := 80) (As := [_, _]) hM imX9_term ivX9_term ilX9_term mwX9_149 xciX9 dX9_heightAt_77 rfl rfl rfl (Nat.le_of_ble_eq_true rfl) ?_
    refine (c_term G l o as M0 N S (d + 2) σ56 (r + 1) (4 * node) _ _ (1) (by first | rfl | (simp only [lN_i', ← Int64.ofInt_mul, Int.natCast_mul]; rfl)) e56 (by omega) t56).mono (fun x σc3 hp => ?_)
    obtain ⟨rfl, qc3, tc3⟩ := hp
    intro M hM
    have oc3 : onlyTC σ σc3 := (o56).trans qc3.c
    have hrc3 : σc3.1 21 = nI (r + 1) := by rw [qc3.1]; exact e56
    show xX G l _ (d + 3) _ _ _ [] M N S
    refine x_aload_n (q := 81) dX9_heightAt_80 rfl rfl ?_
    refine x_aload_n (q := 82) dX9_heightAt_81 rfl rfl ?_
    refine m_call (q := 85) (As := []) hM imX9_settling ivX9_settling ilX9_settling mwX9_172 xciX9 dX9_heightAt_82 rfl rfl rfl (Nat.le_of_ble_eq_true rfl) ?_
    refine (c_settling G l o as M0 N S (d + 2) σc3 c.m (by rw [(oc3).1 3 (by decide)]; exact hm)).mono (fun x σ9 hp => ?_)
    obtain ⟨rfl, e9⟩ := hp
    intro M hM
    rw [e9] at hM
    clear e9 σ9
    show xX G l _ (d + 3) _ _ _ [.int (nI (9 * c.m)), .ref o] M N S
    refine x_aload_n (q := 86) dX9_heightAt_85 rfl rfl ?_
    refine m_get (q := 89) hM 9 fwX9_29 (by decide) dX9_heightAt_86 rfl rfl ?_
    refine x_iload_n (q := 90) dX9_heightAt_89 rfl rfl ?_
    refine m_iald (q := 91) hM (n := 4) (by decide) dX9_heightAt_90 rfl (by omega) ?_
    rw [(oc3).2.1, hSn]
    refine xi_i2l (q := 92) dX9_heightAt_91 rfl rfl (by omega) (by omega) ?_
    refine m_call (q := 95) (As := [_, _]) hM imX9_term ivX9_term ilX9_term mwX9_149 xciX9 dX9_heightAt_92 rfl rfl rfl (Nat.le_of_ble_eq_true rfl) ?_
    refine (c_term G l o as M0 N S (d + 2) σc3 (r + 1) (9 * c.m) _ _ (c.Se node) (by first | rfl | (simp only [lN_i', ← Int64.ofInt_mul, Int.natCast_mul]; rfl)) hrc3 (by omega) tc3).mono (fun x σc4 hp => ?_)
    obtain ⟨rfl, qc4, tc4⟩ := hp
    intro M hM
    have oc4 : onlyTC σ σc4 := (oc3).trans qc4.c
    have hrc4 : σc4.1 21 = nI (r + 1) := by rw [qc4.1]; exact hrc3
    show xX G l _ (d + 3) _ _ _ [] M N S
    refine x_goto 204 dX9_heightAt_95 (by decide) ?_
    refine x_aload_n (q := 205) dX9_heightAt_204 rfl rfl ?_
    refine x_dup (q := 206) dX9_heightAt_205 rfl rfl ?_
    refine m_get (q := 209) hM 21 fwX9_139 (by decide) dX9_heightAt_206 rfl rfl ?_
    rw [hrc4]
    refine xn_iconst (q := 210) 1 dX9_heightAt_209 rfl (by decide) ?_
    refine xn_iadd (q := 211) dX9_heightAt_210 rfl ?_
    refine m_putG (q := 214) hM 21 fwX9_139 (by decide) rfl rfl rfl dX9_heightAt_211 rfl rfl rfl (fun M σ211 a211 e211 b211 hM => ?_)
    have o211 : onlyTC σ σ211 := (oc4).trans (onlyTC.inc a211 b211)
    have t211 := (tc4).same b211
    refine x_vret rfl dX9_heightAt_214 (m_ret hM ⟨rfl, o211, ?_, ?_⟩)
    · simp only [heightP, h0, hR, hB, and_self, and_true, true_and, and_false, false_and, if_true, if_false, reduceIte, Bool.false_eq_true]; exact t211
    · simp only [heightP, h0, hR, hB, and_self, and_true, true_and, and_false, false_and, if_true, if_false, reduceIte, Bool.false_eq_true]; exact e211
  · refine x_iload_n (q := 1) dX9_heightAt_0 rfl rfl ?_
    refine x_aload_n (q := 2) dX9_heightAt_1 rfl rfl ?_
    refine m_get (q := 5) hM 3 fwX9_93 (by decide) dX9_heightAt_2 rfl rfl ?_
    rw [(onlyTC.rfl').1 3 (by decide), hm]
    refine xn_icmp_ge (q := 8) 12 dX9_heightAt_5 (by decide) rfl (by omega) (by omega) (fun hc5 => ?_) (fun hc5 => absurd hc5 (by omega))
    refine xn_iconst (q := 13) 0 dX9_heightAt_12 rfl (by decide) ?_
    refine x_istore_n (q := 14) (ls' := [(0, _), (1, _), (2, _)]) [1, 2, 0] dX9_heightAt_13 rfl (by decide) rfl ?_
    refine x_iload_n (q := 15) dX9_heightAt_14 rfl rfl ?_
    refine xn_if_le (q := 18) 59 dX9_heightAt_15 (by decide) rfl (by omega) (fun hc15 => absurd hc15 (by omega)) (fun hc15 => ?_)
    refine x_iload_n (q := 19) dX9_heightAt_18 rfl rfl ?_
    refine xn_if_eq (q := 22) 59 dX9_heightAt_19 (by decide) rfl (by omega) (fun hc19 => ?_) (fun hc19 => absurd hc19 (by decide))
    refine x_aload_n (q := 60) dX9_heightAt_59 rfl rfl ?_
    refine m_get (q := 63) hM 7 fwX9_23 (by decide) dX9_heightAt_60 rfl rfl ?_
    refine x_iload_n (q := 64) dX9_heightAt_63 rfl rfl ?_
    refine m_zald (q := 65) hM (n := 4) (by decide) dX9_heightAt_64 rfl (by omega) ?_
    rw [(onlyTC.rfl').2.1, hHn, hB]
    refine x_if_eq (q := 68) 137 dX9_heightAt_65 (by decide) rfl (fun hc65 => ?_) (fun hc65 => absurd rfl hc65)
    refine x_iload_n (q := 138) dX9_heightAt_137 rfl rfl ?_
    refine xn_if_eq (q := 141) 164 dX9_heightAt_138 (by decide) rfl (by omega) (fun hc138 => ?_) (fun hc138 => absurd hc138 (by decide))
    refine x_iload_n (q := 165) dX9_heightAt_164 rfl rfl ?_
    refine xn_if_le (q := 168) 204 dX9_heightAt_165 (by decide) rfl (by omega) (fun hc165 => absurd hc165 (by omega)) (fun hc165 => ?_)
    refine x_aload_n (q := 169) dX9_heightAt_168 rfl rfl ?_
    refine xn_iconst (q := 170) 4 dX9_heightAt_169 rfl (by decide) ?_
    refine x_iload_n (q := 171) dX9_heightAt_170 rfl rfl ?_
    refine xn_imul (q := 172) dX9_heightAt_171 rfl ?_
    refine xn_iconst (q := 173) 1 dX9_heightAt_172 rfl (by decide) ?_
    refine xn_isub (q := 174) dX9_heightAt_173 rfl (by omega) ?_
    refine x_ldc2 (q := 177) (-1) dX9_heightAt_174 rfl cwX9_176 ?_
    refine x_topl (y := iL (-1)) (by decide) ?_
    refine m_call (q := 180) (As := [_, _]) hM imX9_term ivX9_term ilX9_term mwX9_149 xciX9 dX9_heightAt_177 rfl rfl rfl (Nat.le_of_ble_eq_true rfl) ?_
    refine (c_term G l o as M0 N S (d + 2) σ (r) (4 * node - 1) _ _ (-1) (by first | rfl | (simp only [lN_i', ← Int64.ofInt_mul, Int.natCast_mul]; rfl)) hr (by omega) hT).mono (fun x σc1 hp => ?_)
    obtain ⟨rfl, qc1, tc1⟩ := hp
    intro M hM
    have oc1 : onlyTC σ σc1 := (onlyTC.rfl').trans qc1.c
    have hrc1 : σc1.1 21 = nI (r) := by rw [qc1.1]; exact hr
    show xX G l _ (d + 3) _ _ _ [] M N S
    refine x_aload_n (q := 181) dX9_heightAt_180 rfl rfl ?_
    refine x_iload_n (q := 182) dX9_heightAt_181 rfl rfl ?_
    refine xn_iconst (q := 183) 1 dX9_heightAt_182 rfl (by decide) ?_
    refine xn_isub (q := 184) dX9_heightAt_183 rfl (by omega) ?_
    refine xn_iconst (q := 185) 0 dX9_heightAt_184 rfl (by decide) ?_
    refine xn_lconst (q := 186) 1 dX9_heightAt_185 rfl (by decide) ?_
    refine m_call (q := 189) (As := [_, _, _]) hM imX9_loads ivX9_loads ilX9_loads mwX9_156 xciX9 dX9_heightAt_186 rfl rfl rfl (Nat.le_of_ble_eq_true rfl) ?_
    refine (c_loads G l o as M0 N S (d + 1) σc1 c (r) (node - 1) 0 _ _ (1) rfl ((oc1).cf hc) hrc1 (by omega) (by omega) (by decide) tc1).mono (fun x σc2 hp => ?_)
    obtain ⟨rfl, qc2, tc2⟩ := hp
    intro M hM
    have oc2 : onlyTC σ σc2 := (oc1).trans qc2.c
    have hrc2 : σc2.1 21 = nI (r) := by rw [qc2.1]; exact hrc1
    show xX G l _ (d + 3) _ _ _ [] M N S
    refine x_aload_n (q := 190) dX9_heightAt_189 rfl rfl ?_
    refine x_aload_n (q := 191) dX9_heightAt_190 rfl rfl ?_
    refine x_iload_n (q := 192) dX9_heightAt_191 rfl rfl ?_
    refine xn_iconst (q := 193) 1 dX9_heightAt_192 rfl (by decide) ?_
    refine xn_isub (q := 194) dX9_heightAt_193 rfl (by omega) ?_
    refine xn_iconst (q := 195) 4 dX9_heightAt_194 rfl (by decide) ?_
    refine m_call (q := 198) (As := [_, _]) hM imX9_column ivX9_column ilX9_column mwX9_144 xciX9 dX9_heightAt_195 rfl rfl rfl (Nat.le_of_ble_eq_true rfl) ?_
    refine (c_column G l o as M0 N S (d + 2) σc2 c.m (node - 1) (4) (by rw [(oc2).1 3 (by decide)]; exact hm)).mono (fun x σ9 hp => ?_)
    obtain ⟨rfl, e9⟩ := hp
    intro M hM
    rw [e9] at hM
    clear e9 σ9
    show xX G l _ (d + 3) _ _ _ [.int (nI (4 * c.m + 5 * (node - 1) + (4))), .ref o] M N S
    refine x_ldc2 (q := 201) (-1) dX9_heightAt_198 rfl cwX9_176 ?_
    refine x_topl (y := iL (-1)) (by decide) ?_
    refine m_call (q := 204) (As := [_, _]) hM imX9_term ivX9_term ilX9_term mwX9_149 xciX9 dX9_heightAt_201 rfl rfl rfl (Nat.le_of_ble_eq_true rfl) ?_
    refine (c_term G l o as M0 N S (d + 2) σc2 (r) (4 * c.m + 5 * (node - 1) + 4) _ _ (-1) (by first | rfl | (simp only [lN_i', ← Int64.ofInt_mul, Int.natCast_mul]; rfl)) hrc2 (by omega) tc2).mono (fun x σc3 hp => ?_)
    obtain ⟨rfl, qc3, tc3⟩ := hp
    intro M hM
    have oc3 : onlyTC σ σc3 := (oc2).trans qc3.c
    have hrc3 : σc3.1 21 = nI (r) := by rw [qc3.1]; exact hrc2
    show xX G l _ (d + 3) _ _ _ [] M N S
    refine x_aload_n (q := 205) dX9_heightAt_204 rfl rfl ?_
    refine x_dup (q := 206) dX9_heightAt_205 rfl rfl ?_
    refine m_get (q := 209) hM 21 fwX9_139 (by decide) dX9_heightAt_206 rfl rfl ?_
    rw [hrc3]
    refine xn_iconst (q := 210) 1 dX9_heightAt_209 rfl (by decide) ?_
    refine xn_iadd (q := 211) dX9_heightAt_210 rfl ?_
    refine m_putG (q := 214) hM 21 fwX9_139 (by decide) rfl rfl rfl dX9_heightAt_211 rfl rfl rfl (fun M σ211 a211 e211 b211 hM => ?_)
    have o211 : onlyTC σ σ211 := (oc3).trans (onlyTC.inc a211 b211)
    have t211 := (tc3).same b211
    refine x_vret rfl dX9_heightAt_214 (m_ret hM ⟨rfl, o211, ?_, ?_⟩)
    · simp only [heightP, h0, hR, hB, and_self, and_true, true_and, and_false, false_and, if_true, if_false, reduceIte, Bool.false_eq_true]; exact t211
    · simp only [heightP, h0, hR, hB, and_self, and_true, true_and, and_false, false_and, if_true, if_false, reduceIte, Bool.false_eq_true]; exact e211
  · refine x_iload_n (q := 1) dX9_heightAt_0 rfl rfl ?_
    refine x_aload_n (q := 2) dX9_heightAt_1 rfl rfl ?_
    refine m_get (q := 5) hM 3 fwX9_93 (by decide) dX9_heightAt_2 rfl rfl ?_
    rw [(onlyTC.rfl').1 3 (by decide), hm]
    refine xn_icmp_ge (q := 8) 12 dX9_heightAt_5 (by decide) rfl (by omega) (by omega) (fun hc5 => ?_) (fun hc5 => absurd hc5 (by omega))
    refine xn_iconst (q := 13) 0 dX9_heightAt_12 rfl (by decide) ?_
    refine x_istore_n (q := 14) (ls' := [(0, _), (1, _), (2, _)]) [1, 2, 0] dX9_heightAt_13 rfl (by decide) rfl ?_
    refine x_iload_n (q := 15) dX9_heightAt_14 rfl rfl ?_
    refine xn_if_le (q := 18) 59 dX9_heightAt_15 (by decide) rfl (by omega) (fun hc15 => absurd hc15 (by omega)) (fun hc15 => ?_)
    refine x_iload_n (q := 19) dX9_heightAt_18 rfl rfl ?_
    refine xn_if_eq (q := 22) 59 dX9_heightAt_19 (by decide) rfl (by omega) (fun hc19 => ?_) (fun hc19 => absurd hc19 (by decide))
    refine x_aload_n (q := 60) dX9_heightAt_59 rfl rfl ?_
    refine m_get (q := 63) hM 7 fwX9_23 (by decide) dX9_heightAt_60 rfl rfl ?_
    refine x_iload_n (q := 64) dX9_heightAt_63 rfl rfl ?_
    refine m_zald (q := 65) hM (n := 4) (by decide) dX9_heightAt_64 rfl (by omega) ?_
    rw [(onlyTC.rfl').2.1, hHn, hB]
    refine x_if_eq (q := 68) 137 dX9_heightAt_65 (by decide) rfl (fun hc65 => absurd hc65 (by decide)) (fun hc65 => ?_)
    refine x_iload_n (q := 69) dX9_heightAt_68 rfl rfl ?_
    refine xn_if_eq (q := 72) 98 dX9_heightAt_69 (by decide) rfl (by omega) (fun hc69 => ?_) (fun hc69 => absurd hc69 (by decide))
    refine x_aload_n (q := 99) dX9_heightAt_98 rfl rfl ?_
    refine x_iload_n (q := 100) dX9_heightAt_99 rfl rfl ?_
    refine xn_iconst (q := 101) 1 dX9_heightAt_100 rfl (by decide) ?_
    refine xn_isub (q := 102) dX9_heightAt_101 rfl (by omega) ?_
    refine m_call (q := 105) (As := [_]) hM imX9_rightMove ivX9_rightMove ilX9_rightMove mwX9_166 xciX9 dX9_heightAt_102 rfl rfl rfl (Nat.le_of_ble_eq_true rfl) ?_
    refine (c_rightMove G l o as M0 N S d σ c (r) (node - 1) _ ((onlyTC.rfl').cf hc) hr (by omega) (by omega) hT).mono (fun x σc1 hp => ?_)
    obtain ⟨rfl, qc1, tc1⟩ := hp
    intro M hM
    have oc1 : onlyTC σ σc1 := (onlyTC.rfl').trans qc1.c
    have hrc1 : σc1.1 21 = nI (r) := by rw [qc1.1]; exact hr
    show xX G l _ (d + 3) _ _ _ [] M N S
    refine x_aload_n (q := 106) dX9_heightAt_105 rfl rfl ?_
    refine x_aload_n (q := 107) dX9_heightAt_106 rfl rfl ?_
    refine m_call (q := 110) (As := []) hM imX9_settling ivX9_settling ilX9_settling mwX9_172 xciX9 dX9_heightAt_107 rfl rfl rfl (Nat.le_of_ble_eq_true rfl) ?_
    refine (c_settling G l o as M0 N S (d + 2) σc1 c.m (by rw [(oc1).1 3 (by decide)]; exact hm)).mono (fun x σ9 hp => ?_)
    obtain ⟨rfl, e9⟩ := hp
    intro M hM
    rw [e9] at hM
    clear e9 σ9
    show xX G l _ (d + 3) _ _ _ [.int (nI (9 * c.m)), .ref o] M N S
    refine xn_ldc2 (q := 113) 384 dX9_heightAt_110 rfl cwX9_147 ?_
    refine x_aload_n (q := 114) dX9_heightAt_113 rfl rfl ?_
    refine m_get (q := 117) hM 5 fwX9_16 (by decide) dX9_heightAt_114 rfl rfl ?_
    refine x_iload_n (q := 118) dX9_heightAt_117 rfl rfl ?_
    refine xn_iconst (q := 119) 1 dX9_heightAt_118 rfl (by decide) ?_
    refine xn_isub (q := 120) dX9_heightAt_119 rfl (by omega) ?_
    refine m_iald (q := 121) hM (n := 3) (by decide) dX9_heightAt_120 rfl (by omega) ?_
    rw [(oc1).2.1, hE1]
    refine xn_i2l (q := 122) dX9_heightAt_121 rfl (by omega) ?_
    refine xn_lmul (q := 123) dX9_heightAt_122 rfl ?_
    refine x_aload_n (q := 124) dX9_heightAt_123 rfl rfl ?_
    refine m_get (q := 127) hM 9 fwX9_29 (by decide) dX9_heightAt_124 rfl rfl ?_
    refine x_iload_n (q := 128) dX9_heightAt_127 rfl rfl ?_
    refine m_iald (q := 129) hM (n := 4) (by decide) dX9_heightAt_128 rfl (by omega) ?_
    rw [(oc1).2.1, hSn]
    refine xi_i2l (q := 130) dX9_heightAt_129 rfl rfl (by omega) (by omega) ?_
    refine xi_lmul (q := 131) dX9_heightAt_130 rfl (lN_i' _) rfl ?_
    refine m_call (q := 134) (As := [_, _]) hM imX9_term ivX9_term ilX9_term mwX9_149 xciX9 dX9_heightAt_131 rfl rfl rfl (Nat.le_of_ble_eq_true rfl) ?_
    refine (c_term G l o as M0 N S (d + 2) σc1 (r) (9 * c.m) _ _ (384 * c.E (node - 1) * c.Se node) (by first | rfl | (simp only [lN_i', ← Int64.ofInt_mul, Int.natCast_mul]; rfl)) hrc1 (by omega) tc1).mono (fun x σc2 hp => ?_)
    obtain ⟨rfl, qc2, tc2⟩ := hp
    intro M hM
    have oc2 : onlyTC σ σc2 := (oc1).trans qc2.c
    have hrc2 : σc2.1 21 = nI (r) := by rw [qc2.1]; exact hrc1
    show xX G l _ (d + 3) _ _ _ [] M N S
    refine x_goto 204 dX9_heightAt_134 (by decide) ?_
    refine x_aload_n (q := 205) dX9_heightAt_204 rfl rfl ?_
    refine x_dup (q := 206) dX9_heightAt_205 rfl rfl ?_
    refine m_get (q := 209) hM 21 fwX9_139 (by decide) dX9_heightAt_206 rfl rfl ?_
    rw [hrc2]
    refine xn_iconst (q := 210) 1 dX9_heightAt_209 rfl (by decide) ?_
    refine xn_iadd (q := 211) dX9_heightAt_210 rfl ?_
    refine m_putG (q := 214) hM 21 fwX9_139 (by decide) rfl rfl rfl dX9_heightAt_211 rfl rfl rfl (fun M σ211 a211 e211 b211 hM => ?_)
    have o211 : onlyTC σ σ211 := (oc2).trans (onlyTC.inc a211 b211)
    have t211 := (tc2).same b211
    refine x_vret rfl dX9_heightAt_214 (m_ret hM ⟨rfl, o211, ?_, ?_⟩)
    · simp only [heightP, h0, hR, hB, and_self, and_true, true_and, and_false, false_and, if_true, if_false, reduceIte, Bool.false_eq_true]; exact t211
    · simp only [heightP, h0, hR, hB, and_self, and_true, true_and, and_false, false_and, if_true, if_false, reduceIte, Bool.false_eq_true]; exact e211
  · refine x_iload_n (q := 1) dX9_heightAt_0 rfl rfl ?_
    refine x_aload_n (q := 2) dX9_heightAt_1 rfl rfl ?_
    refine m_get (q := 5) hM 3 fwX9_93 (by decide) dX9_heightAt_2 rfl rfl ?_
    rw [(onlyTC.rfl').1 3 (by decide), hm]
    refine xn_icmp_ge (q := 8) 12 dX9_heightAt_5 (by decide) rfl (by omega) (by omega) (fun hc5 => absurd hc5 (by omega)) (fun hc5 => ?_)
    refine xn_iconst (q := 9) 1 dX9_heightAt_8 rfl (by decide) ?_
    refine x_goto 13 dX9_heightAt_9 (by decide) ?_
    refine x_istore_n (q := 14) (ls' := [(0, _), (1, _), (2, _)]) [1, 2, 0] dX9_heightAt_13 rfl (by decide) rfl ?_
    refine x_iload_n (q := 15) dX9_heightAt_14 rfl rfl ?_
    refine xn_if_le (q := 18) 59 dX9_heightAt_15 (by decide) rfl (by omega) (fun hc15 => ?_) (fun hc15 => absurd hc15 (by omega))
    refine x_aload_n (q := 60) dX9_heightAt_59 rfl rfl ?_
    refine m_get (q := 63) hM 7 fwX9_23 (by decide) dX9_heightAt_60 rfl rfl ?_
    refine x_iload_n (q := 64) dX9_heightAt_63 rfl rfl ?_
    refine m_zald (q := 65) hM (n := 4) (by decide) dX9_heightAt_64 rfl (by omega) ?_
    rw [(onlyTC.rfl').2.1, hHn, hB]
    refine x_if_eq (q := 68) 137 dX9_heightAt_65 (by decide) rfl (fun hc65 => ?_) (fun hc65 => absurd rfl hc65)
    refine x_iload_n (q := 138) dX9_heightAt_137 rfl rfl ?_
    refine xn_if_eq (q := 141) 164 dX9_heightAt_138 (by decide) rfl (by omega) (fun hc138 => absurd hc138 (by decide)) (fun hc138 => ?_)
    refine x_aload_n (q := 142) dX9_heightAt_141 rfl rfl ?_
    refine xn_iconst (q := 143) 4 dX9_heightAt_142 rfl (by decide) ?_
    refine x_iload_n (q := 144) dX9_heightAt_143 rfl rfl ?_
    refine xn_imul (q := 145) dX9_heightAt_144 rfl ?_
    refine xn_iconst (q := 146) 3 dX9_heightAt_145 rfl (by decide) ?_
    refine xn_iadd (q := 147) dX9_heightAt_146 rfl ?_
    refine xn_lconst (q := 148) 1 dX9_heightAt_147 rfl (by decide) ?_
    refine m_call (q := 151) (As := [_, _]) hM imX9_term ivX9_term ilX9_term mwX9_149 xciX9 dX9_heightAt_148 rfl rfl rfl (Nat.le_of_ble_eq_true rfl) ?_
    refine (c_term G l o as M0 N S (d + 2) σ (r) (4 * node + 3) _ _ (1) (by first | rfl | (simp only [lN_i', ← Int64.ofInt_mul, Int.natCast_mul]; rfl)) hr (by omega) hT).mono (fun x σc1 hp => ?_)
    obtain ⟨rfl, qc1, tc1⟩ := hp
    intro M hM
    have oc1 : onlyTC σ σc1 := (onlyTC.rfl').trans qc1.c
    have hrc1 : σc1.1 21 = nI (r) := by rw [qc1.1]; exact hr
    show xX G l _ (d + 3) _ _ _ [] M N S
    refine x_aload_n (q := 152) dX9_heightAt_151 rfl rfl ?_
    refine x_aload_n (q := 153) dX9_heightAt_152 rfl rfl ?_
    refine x_iload_n (q := 154) dX9_heightAt_153 rfl rfl ?_
    refine xn_iconst (q := 155) 0 dX9_heightAt_154 rfl (by decide) ?_
    refine m_call (q := 158) (As := [_, _]) hM imX9_column ivX9_column ilX9_column mwX9_144 xciX9 dX9_heightAt_155 rfl rfl rfl (Nat.le_of_ble_eq_true rfl) ?_
    refine (c_column G l o as M0 N S (d + 2) σc1 c.m (node) (0) (by rw [(oc1).1 3 (by decide)]; exact hm)).mono (fun x σ9 hp => ?_)
    obtain ⟨rfl, e9⟩ := hp
    intro M hM
    rw [e9] at hM
    clear e9 σ9
    show xX G l _ (d + 3) _ _ _ [.int (nI (4 * c.m + 5 * (node) + (0))), .ref o] M N S
    refine x_ldc2 (q := 161) (-1) dX9_heightAt_158 rfl cwX9_176 ?_
    refine x_topl (y := iL (-1)) (by decide) ?_
    refine m_call (q := 164) (As := [_, _]) hM imX9_term ivX9_term ilX9_term mwX9_149 xciX9 dX9_heightAt_161 rfl rfl rfl (Nat.le_of_ble_eq_true rfl) ?_
    refine (c_term G l o as M0 N S (d + 2) σc1 (r) (4 * c.m + 5 * node + 0) _ _ (-1) (by first | rfl | (simp only [lN_i', ← Int64.ofInt_mul, Int.natCast_mul]; rfl)) hrc1 (by omega) tc1).mono (fun x σc2 hp => ?_)
    obtain ⟨rfl, qc2, tc2⟩ := hp
    intro M hM
    have oc2 : onlyTC σ σc2 := (oc1).trans qc2.c
    have hrc2 : σc2.1 21 = nI (r) := by rw [qc2.1]; exact hrc1
    show xX G l _ (d + 3) _ _ _ [] M N S
    refine x_iload_n (q := 165) dX9_heightAt_164 rfl rfl ?_
    refine xn_if_le (q := 168) 204 dX9_heightAt_165 (by decide) rfl (by omega) (fun hc165 => ?_) (fun hc165 => absurd hc165 (by omega))
    refine x_aload_n (q := 205) dX9_heightAt_204 rfl rfl ?_
    refine x_dup (q := 206) dX9_heightAt_205 rfl rfl ?_
    refine m_get (q := 209) hM 21 fwX9_139 (by decide) dX9_heightAt_206 rfl rfl ?_
    rw [hrc2]
    refine xn_iconst (q := 210) 1 dX9_heightAt_209 rfl (by decide) ?_
    refine xn_iadd (q := 211) dX9_heightAt_210 rfl ?_
    refine m_putG (q := 214) hM 21 fwX9_139 (by decide) rfl rfl rfl dX9_heightAt_211 rfl rfl rfl (fun M σ211 a211 e211 b211 hM => ?_)
    have o211 : onlyTC σ σ211 := (oc2).trans (onlyTC.inc a211 b211)
    have t211 := (tc2).same b211
    refine x_vret rfl dX9_heightAt_214 (m_ret hM ⟨rfl, o211, ?_, ?_⟩)
    · simp only [heightP, h0, hR, hB, and_self, and_true, true_and, and_false, false_and, if_true, if_false, reduceIte, Bool.false_eq_true]; exact t211
    · simp only [heightP, h0, hR, hB, and_self, and_true, true_and, and_false, false_and, if_true, if_false, reduceIte, Bool.false_eq_true]; exact e211
  · refine x_iload_n (q := 1) dX9_heightAt_0 rfl rfl ?_
    refine x_aload_n (q := 2) dX9_heightAt_1 rfl rfl ?_
    refine m_get (q := 5) hM 3 fwX9_93 (by decide) dX9_heightAt_2 rfl rfl ?_
    rw [(onlyTC.rfl').1 3 (by decide), hm]
    refine xn_icmp_ge (q := 8) 12 dX9_heightAt_5 (by decide) rfl (by omega) (by omega) (fun hc5 => absurd hc5 (by omega)) (fun hc5 => ?_)
    refine xn_iconst (q := 9) 1 dX9_heightAt_8 rfl (by decide) ?_
    refine x_goto 13 dX9_heightAt_9 (by decide) ?_
    refine x_istore_n (q := 14) (ls' := [(0, _), (1, _), (2, _)]) [1, 2, 0] dX9_heightAt_13 rfl (by decide) rfl ?_
    refine x_iload_n (q := 15) dX9_heightAt_14 rfl rfl ?_
    refine xn_if_le (q := 18) 59 dX9_heightAt_15 (by decide) rfl (by omega) (fun hc15 => ?_) (fun hc15 => absurd hc15 (by omega))
    refine x_aload_n (q := 60) dX9_heightAt_59 rfl rfl ?_
    refine m_get (q := 63) hM 7 fwX9_23 (by decide) dX9_heightAt_60 rfl rfl ?_
    refine x_iload_n (q := 64) dX9_heightAt_63 rfl rfl ?_
    refine m_zald (q := 65) hM (n := 4) (by decide) dX9_heightAt_64 rfl (by omega) ?_
    rw [(onlyTC.rfl').2.1, hHn, hB]
    refine x_if_eq (q := 68) 137 dX9_heightAt_65 (by decide) rfl (fun hc65 => absurd hc65 (by decide)) (fun hc65 => ?_)
    refine x_iload_n (q := 69) dX9_heightAt_68 rfl rfl ?_
    refine xn_if_eq (q := 72) 98 dX9_heightAt_69 (by decide) rfl (by omega) (fun hc69 => absurd hc69 (by decide)) (fun hc69 => ?_)
    refine x_aload_n (q := 73) dX9_heightAt_72 rfl rfl ?_
    refine xn_iconst (q := 74) 4 dX9_heightAt_73 rfl (by decide) ?_
    refine x_iload_n (q := 75) dX9_heightAt_74 rfl rfl ?_
    refine xn_imul (q := 76) dX9_heightAt_75 rfl ?_
    refine xn_lconst (q := 77) 1 dX9_heightAt_76 rfl (by decide) ?_
    refine m_call (q := 80) (As := [_, _]) hM imX9_term ivX9_term ilX9_term mwX9_149 xciX9 dX9_heightAt_77 rfl rfl rfl (Nat.le_of_ble_eq_true rfl) ?_
    refine (c_term G l o as M0 N S (d + 2) σ (r) (4 * node) _ _ (1) (by first | rfl | (simp only [lN_i', ← Int64.ofInt_mul, Int.natCast_mul]; rfl)) hr (by omega) hT).mono (fun x σc1 hp => ?_)
    obtain ⟨rfl, qc1, tc1⟩ := hp
    intro M hM
    have oc1 : onlyTC σ σc1 := (onlyTC.rfl').trans qc1.c
    have hrc1 : σc1.1 21 = nI (r) := by rw [qc1.1]; exact hr
    show xX G l _ (d + 3) _ _ _ [] M N S
    refine x_aload_n (q := 81) dX9_heightAt_80 rfl rfl ?_
    refine x_aload_n (q := 82) dX9_heightAt_81 rfl rfl ?_
    refine m_call (q := 85) (As := []) hM imX9_settling ivX9_settling ilX9_settling mwX9_172 xciX9 dX9_heightAt_82 rfl rfl rfl (Nat.le_of_ble_eq_true rfl) ?_
    refine (c_settling G l o as M0 N S (d + 2) σc1 c.m (by rw [(oc1).1 3 (by decide)]; exact hm)).mono (fun x σ9 hp => ?_)
    obtain ⟨rfl, e9⟩ := hp
    intro M hM
    rw [e9] at hM
    clear e9 σ9
    show xX G l _ (d + 3) _ _ _ [.int (nI (9 * c.m)), .ref o] M N S
    refine x_aload_n (q := 86) dX9_heightAt_85 rfl rfl ?_
    refine m_get (q := 89) hM 9 fwX9_29 (by decide) dX9_heightAt_86 rfl rfl ?_
    refine x_iload_n (q := 90) dX9_heightAt_89 rfl rfl ?_
    refine m_iald (q := 91) hM (n := 4) (by decide) dX9_heightAt_90 rfl (by omega) ?_
    rw [(oc1).2.1, hSn]
    refine xi_i2l (q := 92) dX9_heightAt_91 rfl rfl (by omega) (by omega) ?_
    refine m_call (q := 95) (As := [_, _]) hM imX9_term ivX9_term ilX9_term mwX9_149 xciX9 dX9_heightAt_92 rfl rfl rfl (Nat.le_of_ble_eq_true rfl) ?_
    refine (c_term G l o as M0 N S (d + 2) σc1 (r) (9 * c.m) _ _ (c.Se node) (by first | rfl | (simp only [lN_i', ← Int64.ofInt_mul, Int.natCast_mul]; rfl)) hrc1 (by omega) tc1).mono (fun x σc2 hp => ?_)
    obtain ⟨rfl, qc2, tc2⟩ := hp
    intro M hM
    have oc2 : onlyTC σ σc2 := (oc1).trans qc2.c
    have hrc2 : σc2.1 21 = nI (r) := by rw [qc2.1]; exact hrc1
    show xX G l _ (d + 3) _ _ _ [] M N S
    refine x_goto 204 dX9_heightAt_95 (by decide) ?_
    refine x_aload_n (q := 205) dX9_heightAt_204 rfl rfl ?_
    refine x_dup (q := 206) dX9_heightAt_205 rfl rfl ?_
    refine m_get (q := 209) hM 21 fwX9_139 (by decide) dX9_heightAt_206 rfl rfl ?_
    rw [hrc2]
    refine xn_iconst (q := 210) 1 dX9_heightAt_209 rfl (by decide) ?_
    refine xn_iadd (q := 211) dX9_heightAt_210 rfl ?_
    refine m_putG (q := 214) hM 21 fwX9_139 (by decide) rfl rfl rfl dX9_heightAt_211 rfl rfl rfl (fun M σ211 a211 e211 b211 hM => ?_)
    have o211 : onlyTC σ σ211 := (oc2).trans (onlyTC.inc a211 b211)
    have t211 := (tc2).same b211
    refine x_vret rfl dX9_heightAt_214 (m_ret hM ⟨rfl, o211, ?_, ?_⟩)
    · simp only [heightP, h0, hR, hB, and_self, and_true, true_and, and_false, false_and, if_true, if_false, reduceIte, Bool.false_eq_true]; exact t211
    · simp only [heightP, h0, hR, hB, and_self, and_true, true_and, and_false, false_and, if_true, if_false, reduceIte, Bool.false_eq_true]; exact e211
  · exact absurd hR (by omega)
  · exact absurd hR (by omega)
end XH
