section XT1
def AIO : String := "java/lang/ArrayIndexOutOfBoundsException"
def aioN : List String := ["java/lang/IndexOutOfBoundsException", "java/lang/RuntimeException", "java/lang/Exception"]
/-- thrown: the class, and the memory as it was -/
def thQ (G : xG) (M : xM) : String → State → State → Prop := fun E _ t => E = AIO ∧ xP G M t.heap
def thR (d : Nat) : Room := { frames := d, cells := 1, slots := 6, locals := 40 * d }
def thF (G : xG) (Y : xY) (d : Nat) (p : Program) (R : Room) (s : State) (m : MethodId) (args : Array Value) (meth : Method) (c : Code) : Prop :=
  p.tables.exec = Jvm.exec ∧ c.code = Y.2.1 ∧ meth.sig.returnType = Y.2.2.2 ∧ meth.locks = false ∧ c.maxLocals = Y.2.2.1 ∧ s.vm.findClass Y.1.cls = some m.cls ∧ meth.name = Y.1.name ∧ (∀ w ∈ xW, w.before args s = true) ∧ xK G s ∧ G.2.2.1 ≤ s.heap.size ∧ R = thR d ∧ ∀ x ∈ c.exceptionTable.toList, False
def thH (G : xG) (Y : xY) (ls : List (Nat × Value)) (M : xM) (N S : Nat) (s : State) (H : Heap) (locs : List Loc) (lsA : Array Slot) : Prop :=
  lv_has lsA Y.2.2.1 ls ∧ xP G M H ∧ H.size = N ∧ xsl H = S ∧ s.heap.size = N ∧ xsl s.heap = S ∧ ∀ q ∈ locs, G.2.2.1 ≤ q.base
/-- the machine in a frame of method Y at pc comes to a throw; nothing has been made so far -/
def thX (G : xG) (l : Launch) (Y : xY) (d : Nat) (pc : Nat) (ls : List (Nat × Value)) (st : List Value) (M : xM) (N S : Nat) : Prop :=
  ∀ (p : Program) (e : Env) (R : Room) (s : State) (m : MethodId) (args : Array Value) (below : List Frame) (meth : Method) (c : Code) (H : Heap) (locs : List Loc) (lsA : Array Slot),
    thF G Y d p R s m args meth c → thH G Y ls M N S s H locs lsA →
    W p l e R s m args below meth c H locs 0 0 (vx_MQ below (fun _ _ _ _ => False) (thQ G M) args s 1 6 (fun q => G.2.2.1 ≤ q)) (F0 m pc lsA st)
/-- method Y, called so, throws -/
def thC (G : xG) (l : Launch) (Y : xY) (d : Nat) (av : List Value) (M : xM) (N S : Nat) : Prop :=
  vx_Met l Y.1 (Cond.code Y.1 Y.2.1 Y.2.2.1 Y.2.2.2 :: xW) (thR d) (va_Pc av (fun U => U.heap.size = N ∧ xsl U.heap = S ∧ xP G M U.heap ∧ xK G U)) (fun _ _ _ _ => False) (thQ G M) 1 6 (fun q => G.2.2.1 ≤ q)
theorem thC.of {G : xG} {l : Launch} {Y : xY} {d : Nat} {av : List Value} {M : xM} {N S : Nat} {ls : List (Nat × Value)} (hpl : plainName Y.1.cls = true) (hlen : (lg_sl av).length ≤ Y.2.2.1) (hls : lv_args 0 av = ls) (hX : thX G l Y d 0 ls [] M N S) : thC G l Y d av M N S := by
  refine vx_ofW (cc := Y.2.1) (maxL := Y.2.2.1) (ret := Y.2.2.2) hpl rfl ?_
  intro p e s m args below meth c s₁ B hml htab hv
  obtain ⟨rfl, hsz, hsl, hP, hK⟩ := hv
  have hts := atoms_spec (ws := Cond.code Y.1 Y.2.1 Y.2.2.1 Y.2.2.2 :: xW) B.pre
  have hown : s.vm.findClass Y.1.cls = some m.cls := findClass_of_methodNamed B.named
  have hl := lv_entry av (n := Y.2.2.1) hlen
  rw [lg_entry_eq]
  exact hX p e _ s m av.toArray below meth c s.heap [] _ ⟨B.exec, B.bytes, B.returns, B.notSynchronized, hml, hown, (name_of_methodNamed B.named B.method).1, fun w h => hts w (List.mem_cons_of_mem _ h), hK, hP.2.2, rfl, htab⟩ ⟨hls ▸ hl, hP, hsz, hsl, hsz, hsl, fun q h => absurd h List.not_mem_nil⟩
section
variable {G : xG} {l : Launch} {Y : xY} {d : Nat} {pc q : Nat} {ls ls' : List (Nat × Value)} {st : List Value} {M : xM} {N S : Nat}
theorem t_iload_n {i : Fin 4} {x : Int32} (hd : decode Y.2.1 pc = .ok (.iload_n i, 1)) (hq : pc + 1 = q) (hv : xget ls i = some (.int x)) (k : thX G l Y d q ls (.int x :: st) M N S) : thX G l Y d pc ls st M N S := by
  subst hq
  intro p e R s m args below meth c H locs lsA hF hH
  exact lv_iload_n hF.1 hF.2.1 hd rfl (xget_at hH.1 hv) (k p e R s m args below meth c H locs lsA hF hH)
theorem t_aload_n {i : Fin 4} {x : Nat} (hd : decode Y.2.1 pc = .ok (.aload_n i, 1)) (hq : pc + 1 = q) (hv : xget ls i = some (.ref x)) (k : thX G l Y d q ls (.ref x :: st) M N S) : thX G l Y d pc ls st M N S := by
  subst hq
  intro p e R s m args below meth c H locs lsA hF hH
  exact lv_aload_n hF.1 hF.2.1 hd rfl (xget_at hH.1 hv) (k p e R s m args below meth c H locs lsA hF hH)
theorem t_if_lt {x : Int32} {off : Int} (t : Nat) (hd : decode Y.2.1 pc = .ok (.ifCond .lt off, 3)) (ht : (pc : Int) + off = (t : Int)) (hq : pc + 3 = q) (kt : x < 0 → thX G l Y d t ls st M N S) (kf : ¬ x < 0 → thX G l Y d q ls st M N S) : thX G l Y d pc ls (.int x :: st) M N S := by
  subst hq
  intro p e R s m args below meth c H locs lsA hF hH
  exact lv_if_lt hF.1 hF.2.1 hd ht (fun h => kt h p e R s m args below meth c H locs lsA hF hH) (fun h => kf h p e R s m args below meth c H locs lsA hF hH)
theorem t_if_ne {x : Int32} {off : Int} (t : Nat) (hd : decode Y.2.1 pc = .ok (.ifCond .ne off, 3)) (ht : (pc : Int) + off = (t : Int)) (hq : pc + 3 = q) (kt : ¬ x = 0 → thX G l Y d t ls st M N S) (kf : x = 0 → thX G l Y d q ls st M N S) : thX G l Y d pc ls (.int x :: st) M N S := by
  subst hq
  intro p e R s m args below meth c H locs lsA hF hH
  exact lv_if_ne hF.1 hF.2.1 hd ht (fun h => kt h p e R s m args below meth c H locs lsA hF hH) (fun h => kf h p e R s m args below meth c H locs lsA hF hH)
theorem t_icmp_lt {x y : Int32} {off : Int} (t : Nat) (hd : decode Y.2.1 pc = .ok (.if_icmp .lt off, 3)) (ht : (pc : Int) + off = (t : Int)) (hq : pc + 3 = q) (kt : x < y → thX G l Y d t ls st M N S) (kf : ¬ x < y → thX G l Y d q ls st M N S) : thX G l Y d pc ls (.int y :: .int x :: st) M N S := by
  subst hq
  intro p e R s m args below meth c H locs lsA hF hH
  exact lv_icmp_lt hF.1 hF.2.1 hd ht (fun h => kt h p e R s m args below meth c H locs lsA hF hH) (fun h => kf h p e R s m args below meth c H locs lsA hF hH)
theorem t_get {ci : Nat} {C : String} {T : u_T} {n index : Nat} {ty : Nat → FieldType} {a : Nat} {fs : List Value} {v : Value} (hc : xcl ci C T n ty) (k : Nat) (hw : Cond.fieldLink Y.1.cls index (T k).1 (T k).2.1 (T k).2.2.1 ∈ xW) (hk : k < n) (hd : decode Y.2.1 pc = .ok (.getfield index, 3)) (hq : pc + 3 = q) (hM : M a = some (.inr (ci, fs))) (hv : fs[k]? = some v) (kk : thX G l Y d q ls (v :: st) M N S) : thX G l Y d pc ls (.ref a :: st) M N S := by
  subst hq
  intro p e R s m args below meth c H locs lsA hF hH
  have hF' := hF
  obtain ⟨hx, hb, -, -, -, hown, -, hts, hK, -⟩ := hF'
  exact va_get (cl := vwCl) (ws := [(a, .inr (ci, fs))]) hx hb hts hc.2.1 hown hK.1 (hH.2.1.one hM) 0 rfl hc.1 k hk (hts _ hw) (fun _ h => h) hv hd (kk p e R s m args below meth c H locs lsA hF hH)
/-- the heap below our first address is as it was -/
theorem t_below {p : Program} {e : Env} {R : Room} {s : State} {m : MethodId} {args : Array Value} {below : List Frame} {meth : Method} {c : Code} {T : State} {locs : List Loc} {cells slots : Nat} (X : Stand p l e R s m args below meth c T locs cells slots) (hlo : ∀ q ∈ locs, G.2.2.1 ≤ q.base) (q : Nat) (hq : q < s.heap.size) (hn : q < G.2.2.1) : T.heap[q]? = s.heap[q]? := by
  have h := vx_frame (U := T) (s := s) (locs := locs) (k := cells) (n := slots) X.same
  exact h.2 q hq (fun z hz h9 => absurd (hlo z hz) (by rw [h9]; exact Nat.not_le.mpr hn))
/-- 'throw new ArrayIndexOutOfBoundsException("..")' -/
theorem t_throw {ik is ic : Nat} {text : String} (hlt : l.stackTraces = false) (hown : Y.1.cls = RX8) (hws : ∀ w ∈ Cond.classLink RX8 ik AIO :: Cond.initialized AIO :: vx_atS RX8 ic AIO aioN, (w ∈ xW ∨ w ∈ xN) ∧ vx_ot w = true) (hstr : ∀ s, xV G s → ∃ sa, vk_R RX8 is text sa s) (hd7 : 7 ≤ d) (hst : (st.map fun v => v.category).sum ≤ 8)
    (d0 : decode Y.2.1 pc = .ok (.new ik, 3)) (d3 : decode Y.2.1 (pc + 3) = .ok (.dup, 1)) (d4 : decode Y.2.1 (pc + 4) = .ok (.ldc is, 2)) (d6 : decode Y.2.1 (pc + 6) = .ok (.invokespecial ic, 3)) (d9 : decode Y.2.1 (pc + 9) = .ok (.athrow, 1)) : thX G l Y d pc ls st M N S := by
  intro p e R s m args below meth c H locs lsA hF hH
  obtain ⟨hx, hb, -, hlocks, hml, hcls, -, hts, hK, hB, rfl, htab⟩ := hF
  obtain ⟨hl, hP, hN, hS, hsN, hsS, hlo⟩ := hH
  have hts2 : ∀ w, w ∈ xW ∨ w ∈ xN → w.before args s = true := fun w hw => by
    rcases hw with h | h
    · exact hts w h
    · exact va_Nw.use (xN_on h) (hK.2.1 w h)
  intro T hT X
  rw [hown] at hcls
  obtain ⟨sa, hsa⟩ := hstr s hK.2.2.1.2
  have hbel : ∀ q : Nat, q < s.heap.size → ¬ G.2.2.1 ≤ q → H[q]? = s.heap[q]? := fun q hq hn => by rw [← hT]; exact t_below X hlo q hq (by omega)
  have hGs : ∀ q : Nat, q < G.2.2.2.1.size → ¬ G.2.2.1 ≤ q → s.heap[q]? = G.2.2.2.1[q]? := fun q hq hn => by
    rw [← hbel q (by omega) hn]; exact hP.2.1 q (by omega)
  have hU := hK.2.2.1.2.2.2.1.kept hGs
  have hSs := hK.2.2.1.2.2.2.2.kept hGs
  refine vx_throwS (cc := Y.2.1) (own := RX8) (cls := AIO) (text := text) (names := aioN) (ik := ik) (is := is) (ic := ic) (sa := sa) (A := fun q => G.2.2.1 ≤ q) hx hb hlt hcls (by decide +kernel) (by decide +kernel) (hts2 _ (hws _ List.mem_cons_self).1) (hts2 _ (hws _ (List.mem_cons_of_mem _ List.mem_cons_self)).1) hsa (fun w hw => hts2 _ (hws _ (List.mem_cons_of_mem _ (List.mem_cons_of_mem _ hw))).1) (fun w hw => (hws w hw).2) hU hSs ⟨by omega, hbel, hlo⟩ (by rw [hml]; exact hl.1) d0 d3 d4 d6 d9 (fun x hx => (htab x hx).elim)
    (by show 3 + 3 < d; omega) (by show _ + (13 * (3 + 1) + 43) ≤ 40 * d; omega) (by show 0 + 1 ≤ 1; omega) (by show 0 + 6 ≤ 6; omega) hlocks (fun t _ hsz hq => ⟨rfl, fun a e2 ha => ?_, fun q hq2 => ?_, ?_⟩) hlo (by omega) (by omega) T hT X
  · obtain ⟨h1, h2⟩ := hP.1 a e2 ha
    exact ⟨h1.kept (hq a h1.lt), h2⟩
  · rw [hq q (by have := hP.2.2; omega)]; exact hP.2.1 q hq2
  · have := hP.2.2; omega
end
/-- a throw, and the method's frame is left -/
theorem t_callX {G : xG} {l : Launch} {Y Y' : xY} {d pc : Nat} {ls : List (Nat × Value)} {st : List Value} {M : xM} {N S n index : Nat} {b ci : Nat} {fs : List Value} {As rest : List Value} (hm : xm Y' n) (hw1 : Cond.instanceMethod Y'.1 ∈ xW) (hw2 : Cond.selects Y'.1.cls Y'.1 Y'.1 ∈ xW) (hw : Cond.methodLink Y.1.cls index Y'.1 ∈ xW) (hci : ∃ T n, vwCl[ci]? = some (Y'.1.cls, T, n)) (hM : M b = some (.inr (ci, fs))) (hd : decode Y.2.1 pc = .ok (.invokevirtual index, 3)) (hst : st = As.reverse ++ .ref b :: rest) (hn : As.length = n) (hr : (rest.map fun v => v.category).sum ≤ 8) (hC : thC G l Y' d (.ref b :: As) M N S) : thX G l Y (d + 1) pc ls st M N S := by
  intro p e R s m args below meth c H locs lsA hF hH
  obtain ⟨hx, hb, -, hlocks, hml, hcls, -, hts, hK, hB, rfl, htab⟩ := hF
  obtain ⟨hl, hP, hN, hS, hsN, hsS, hlo⟩ := hH
  have hpre : ∀ U : State, U.heap = H → s.WarmedH U.vm → va_Pc (.ref b :: As) (fun U => U.heap.size = N ∧ xsl U.heap = S ∧ xP G M U.heap ∧ xK G U) (.ref b :: As).toArray U := fun U hU hW => ⟨rfl, by rw [hU]; exact hN, by rw [hU]; exact hS, by rw [hU]; exact hP, hK.warm hW⟩
  have hrec : ∃ cell : Cell, H[b]? = some cell ∧ cell.vm.isStatics = false ∧ s.vm.findClass Y'.1.cls = some cell.cls := by
    obtain ⟨T0, n0, hci⟩ := hci
    exact va_recv (cl := vwCl) (ws := [(b, .inr (ci, fs))]) hK.1 (hP.one hM) hci (q0 := 0) rfl
  have hcb : CallB (thR (d + 1)) s args Y.1.cls index Y'.1 Y'.2.1 Y'.2.2.1 Y'.2.2.2 (Cond.code Y'.1 Y'.2.1 Y'.2.2.1 Y'.2.2.2 :: xW) (thR d) 1 6 n := callB_of n hts hm.good rfl rfl rfl (hts _ hm.2.1) (hts _ hw) hm.2.2.1 ⟨Nat.le_refl _, by have := hm.2.2.2; unfold thR; dsimp only; omega⟩
  have hrun := vx_runV (p := p) (l := l) (e := e) (below := below) (meth := meth) (locs := locs) (cells := 0) (slots := 0) (H := H) (rest := rest) (nL := Y.2.2.1) (n := n) (g := F0 m pc lsA st) ⟨hx, hb, hml, hcls, hts⟩ hC ⟨hcb, hts _ hw1, hts _ hw2⟩ ⟨xPre_blind, hrec, hpre⟩ rfl hn hl.1 hst (by show 2 * 0 + _ ≤ 8; omega) hd ⟨by show 0 + 1 ≤ 1; omega, by show 0 + 6 ≤ 6; omega⟩
  intro T hT X
  rcases hrun T hT X with ⟨v, st₀, t, T', L, -, -, -, -, -, hF, -⟩ | ⟨q, st₀, t, T', L, E, ce, h0, X', hL, e1, e2, ⟨rfl, hxp⟩, hce, hcv, hcl, go⟩
  · exact hF.elim
  · have hlo' : ∀ z ∈ locs ++ L, G.2.2.1 ≤ z.base := fun z hz => by
      rcases List.mem_append.mp hz with h | h
      · exact hlo z h
      · exact hL z h
    obtain ⟨t2, a1, b1⟩ := vx_out (p := p) (l := l) (e := e) (R := thR (d + 1)) (s := s) (m := m) (args := args) (below := below) (meth := meth) (c := c) (H := T'.heap) (locs := locs ++ L) (cells := 0 + 1) (slots := 0 + 6) (mc := 1) (ms := 6) (free := fun q => G.2.2.1 ≤ q) (ls := lsA) (rest := rest) (Qc := fun _ _ _ _ => False) (XC := thQ G M) (pc := pc) (E := AIO) (ce := ce) (q := q) (fun x hx => (htab x hx).elim) hlocks (by rw [e1]; exact hce) hcv hcl (fun t3 ht3 _ => ⟨rfl, by rw [ht3, e1]; exact hxp⟩) hlo' (by omega) (by omega) T' rfl X'
    exact ⟨t2, go.trans a1, b1⟩
/-- a callee that changes nothing -/
theorem t_callV {G : xG} {l : Launch} {Y Y' : xY} {d pc q : Nat} {ls : List (Nat × Value)} {st : List Value} {M : xM} {N S n index : Nat} {b ci : Nat} {fs : List Value} {As rest : List Value} {r0 : Option Value} (hm : xm Y' n) (hw1 : Cond.instanceMethod Y'.1 ∈ xW) (hw2 : Cond.selects Y'.1.cls Y'.1 Y'.1 ∈ xW) (hw : Cond.methodLink Y.1.cls index Y'.1 ∈ xW) (hci : ∃ T n, vwCl[ci]? = some (Y'.1.cls, T, n)) (hM : M b = some (.inr (ci, fs))) (hd : decode Y.2.1 pc = .ok (.invokevirtual index, 3)) (hq : pc + 3 = q) (hst : st = As.reverse ++ .ref b :: rest) (hn : As.length = n) (hr : (rest.map fun v => v.category).sum ≤ 8) (hC : ∀ G', G'.1 = G.1 → G'.2.1 = G.2.1 → G'.2.2.1 = G.2.2.1 → G'.2.2.2.1 = G.2.2.2.1 → xC G' l Y' d (.ref b :: As) M N S (fun r M' N' S' => r = r0 ∧ M' = M ∧ N' = N ∧ S' = S)) (kk : thX G l Y (d + 1) q ls (r0.toList ++ rest) M N S) : thX G l Y (d + 1) pc ls st M N S := by
  subst hq
  intro p e R s m args below meth c H locs lsA hF hH
  have hF' := hF
  obtain ⟨hx, hb, -, hlocks, hml, hcls, -, hts, hK, hB, rfl, htab⟩ := hF
  obtain ⟨hl, hP, hN, hS, hsN, hsS, hlo⟩ := hH
  have hC := hC (G.1, G.2.1, G.2.2.1, G.2.2.2.1, N + 1, S + 6) rfl rfl rfl rfl (by show N ≤ N + 1; omega) (by show S ≤ S + 6; omega)
  have er : xR (G.1, G.2.1, G.2.2.1, G.2.2.2.1, N + 1, S + 6) d N S = thR d := by
    unfold xR thR
    congr 1
    · show N + 1 - N = 1; omega
    · show S + 6 - S = 6; omega
  rw [er] at hC
  have ec : (G.1, G.2.1, G.2.2.1, G.2.2.2.1, N + 1, S + 6).2.2.2.2.1 - N = 1 := by show N + 1 - N = 1; omega
  have es : (G.1, G.2.1, G.2.2.1, G.2.2.2.1, N + 1, S + 6).2.2.2.2.2 - S = 6 := by show S + 6 - S = 6; omega
  rw [ec, es] at hC
  have hpre : ∀ U : State, U.heap = H → s.WarmedH U.vm → va_Pc (.ref b :: As) (fun U => U.heap.size = N ∧ xsl U.heap = S ∧ xP (G.1, G.2.1, G.2.2.1, G.2.2.2.1, N + 1, S + 6) M U.heap ∧ xK (G.1, G.2.1, G.2.2.1, G.2.2.2.1, N + 1, S + 6) U) (.ref b :: As).toArray U := fun U hU hW => ⟨rfl, by rw [hU]; exact hN, by rw [hU]; exact hS, by rw [hU]; exact hP, hK.warm hW⟩
  have hrec : ∃ cell : Cell, H[b]? = some cell ∧ cell.vm.isStatics = false ∧ s.vm.findClass Y'.1.cls = some cell.cls := by
    obtain ⟨T0, n0, hci⟩ := hci
    exact va_recv (cl := vwCl) (ws := [(b, .inr (ci, fs))]) hK.1 (hP.one hM) hci (q0 := 0) rfl
  have hcb : CallB (thR (d + 1)) s args Y.1.cls index Y'.1 Y'.2.1 Y'.2.2.1 Y'.2.2.2 (Cond.code Y'.1 Y'.2.1 Y'.2.2.1 Y'.2.2.2 :: xW) (thR d) 1 6 n := callB_of n hts hm.good rfl rfl rfl (hts _ hm.2.1) (hts _ hw) hm.2.2.1 ⟨Nat.le_refl _, by have := hm.2.2.2; unfold thR; dsimp only; omega⟩
  have hrun := va_runV (p := p) (l := l) (e := e) (below := below) (meth := meth) (locs := locs) (cells := 0) (slots := 0) (H := H) (As := As) (rest := rest) (nL := Y.2.2.1) (n := n) (g := F0 m pc lsA st) ⟨hx, hb, hml, hcls, hts⟩ hC ⟨hcb, hts _ hw1, hts _ hw2⟩ ⟨xPre_blind, hrec, hpre⟩ rfl hn hl.1 hst (by show 2 * 0 + _ ≤ 8; omega) hd ⟨by show 0 + 1 ≤ 1; omega, by show 0 + 6 ≤ 6; omega⟩
  intro T hT X
  obtain ⟨v, st₀, t, T', L, h0, X', hL, e1, e2, ⟨r, M', hv, hP', ⟨rfl, rfl, hN', hS'⟩, -⟩, go⟩ := hrun T hT X
  cases hv
  have X2 := x_tight X' (k := 0) (n := 0) (by rw [e1]; omega) (by rw [e1]; omega)
  obtain ⟨t2, a1, b1⟩ := kk p e _ s m args below meth c T'.heap (locs ++ L) lsA hF' ⟨hl, by rw [e1]; exact hP', by rw [e1]; exact hN', by rw [e1]; exact hS', hsN, hsS, fun z hz => by
    rcases List.mem_append.mp hz with h | h
    · exact hlo z h
    · exact hL z h⟩ T' rfl X2
  exact ⟨t2, go t2 a1, b1⟩
theorem aio_beam : ∀ w ∈ Cond.classLink RX8 245 AIO :: Cond.initialized AIO :: vx_atS RX8 249 AIO aioN, (w ∈ xW ∨ w ∈ xN) ∧ vx_ot w = true := by decide +kernel
/-- no such beam -/
theorem t_checkBeam {G : xG} {l : Launch} (hlt : l.stackTraces = false) {d : Nat} (hd7 : 7 ≤ d) {M : xM} {N S a0 a1 mm : Nat} {fs0 fs1 : List Value} (h0 : M a0 = some (.inr (11, fs0))) (h1 : fs0[0]? = some (.ref a1)) (h2 : M a1 = some (.inr (4, fs1))) (h3 : fs1[6]? = some (.int (nI mm))) (hm : mm ≤ 3) {k : Int} (hk1 : -2147483648 ≤ k) (hk2 : k < 2147483648) (hk : k < 0 ∨ (mm : Int) ≤ k) : thC G l YX8_checkBeam d [.ref a0, .int (iI k)] M N S := by
  refine thC.of (ls := [(0, .ref a0), (1, .int (iI k))]) (by decide) (Nat.le_of_ble_eq_true rfl) rfl ?_
  have thr : thX G l YX8_checkBeam d 15 [(0, .ref a0), (1, .int (iI k))] [] M N S := t_throw (ik := 245) (is := 247) (ic := 249) (text := "no such beam") hlt rfl aio_beam (fun s hV => hV.1.1) hd7 (by decide) dX8_checkBeam_15 dX8_checkBeam_18 dX8_checkBeam_19 dX8_checkBeam_21 dX8_checkBeam_24
  refine t_iload_n (q := 1) dX8_checkBeam_0 rfl rfl ?_
  refine t_if_lt (q := 4) 15 dX8_checkBeam_1 (by decide) rfl (fun _ => thr) (fun hc => ?_)
  have hc' : 0 ≤ k := Int.not_lt.mp (fun z => hc ((iI_lt hk1 hk2 (by decide) (by decide)).mpr z))
  refine t_iload_n (q := 5) dX8_checkBeam_4 rfl rfl ?_
  refine t_aload_n (q := 6) dX8_checkBeam_5 rfl rfl ?_
  refine t_get (q := 9) xclX8 0 fwX8_10 (by decide) dX8_checkBeam_6 rfl h0 h1 ?_
  refine t_get (q := 12) xclX1 6 fwX8_201 (by decide) dX8_checkBeam_9 rfl h2 h3 ?_
  refine t_icmp_lt (q := 15) 25 dX8_checkBeam_12 (by decide) rfl (fun hc2 => ?_) (fun _ => thr)
  rw [nI_i] at hc2
  have := (iI_lt hk1 hk2 (by omega) (by omega)).mp hc2
  omega

/-- isNode, by the memory alone -/
theorem x_isNode0 (G : xG) (l : Launch) (d : Nat) {M : xM} {N S a0 a1 mm : Nat} {fs0 fs1 : List Value} (h0 : M a0 = some (.inr (11, fs0))) (h1 : fs0[0]? = some (.ref a1)) (h2 : M a1 = some (.inr (4, fs1))) (h3 : fs1[6]? = some (.int (nI mm))) (hm : mm ≤ 3) {k : Int} (hk1 : -2147483648 ≤ k) (hk2 : k < 2147483648) (hk : k < 0 ∨ (mm : Int) < k) : xC G l YX8_isNode d [.ref a0, .int (iI k)] M N S (fun r M' N' S' => r = some (.int (nI 0)) ∧ M' = M ∧ N' = N ∧ S' = S) := by
  refine xC.of (ls := [(0, .ref a0), (1, .int (iI k))]) (by decide) (Nat.le_of_ble_eq_true rfl) rfl ?_
  refine x_iload_n (q := 1) dX8_isNode_0 rfl rfl ?_
  refine xi_if_lt (q := 4) 19 dX8_isNode_1 (by decide) rfl rfl (by omega) (by omega) (fun hc1 => ?_) (fun hc1 => ?_)
  · refine xn_iconst (q := 20) 0 dX8_isNode_19 rfl (by decide) ?_
    exact x_zret rfl (by decide) dX8_isNode_20 ⟨rfl, rfl, rfl, rfl⟩
  · refine x_iload_n (q := 5) dX8_isNode_4 rfl rfl ?_
    refine x_aload_n (q := 6) dX8_isNode_5 rfl rfl ?_
    refine x_get (q := 9) xclX8 0 fwX8_10 (by decide) dX8_isNode_6 rfl h0 h1 ?_
    refine x_get (q := 12) xclX1 6 fwX8_201 (by decide) dX8_isNode_9 rfl h2 h3 ?_
    refine xi_icmp_gt (q := 15) 19 dX8_isNode_12 (by decide) rfl rfl (nI_i _) (by omega) (by omega) (by omega) (by omega) (fun hc12 => ?_) (fun hc12 => ?_)
    · refine xn_iconst (q := 20) 0 dX8_isNode_19 rfl (by decide) ?_
      exact x_zret rfl (by decide) dX8_isNode_20 ⟨rfl, rfl, rfl, rfl⟩
    · exact absurd hk (by omega)
theorem aio_node : ∀ w ∈ Cond.classLink RX8 245 AIO :: Cond.initialized AIO :: vx_atS RX8 249 AIO aioN, (w ∈ xW ∨ w ∈ xN) ∧ vx_ot w = true := aio_beam
/-- no such node -/
theorem t_checkNode {G : xG} {l : Launch} (hlt : l.stackTraces = false) {d : Nat} (hd7 : 6 ≤ d) {M : xM} {N S a0 a1 mm : Nat} {fs0 fs1 : List Value} (h0 : M a0 = some (.inr (11, fs0))) (h1 : fs0[0]? = some (.ref a1)) (h2 : M a1 = some (.inr (4, fs1))) (h3 : fs1[6]? = some (.int (nI mm))) (hm : mm ≤ 3) {k : Int} (hk1 : -2147483648 ≤ k) (hk2 : k < 2147483648) (hk : k < 0 ∨ (mm : Int) < k) : thC G l YX8_checkNode (d + 1) [.ref a0, .int (iI k)] M N S := by
  refine thC.of (ls := [(0, .ref a0), (1, .int (iI k))]) (by decide) (Nat.le_of_ble_eq_true rfl) rfl ?_
  refine t_aload_n (q := 1) dX8_checkNode_0 rfl rfl ?_
  refine t_iload_n (q := 2) dX8_checkNode_1 rfl rfl ?_
  refine t_callV (Y' := YX8_isNode) (As := [.int (iI k)]) (rest := []) (r0 := some (.int (nI 0))) (q := 5) imX8_isNode ivX8_isNode ilX8_isNode mwX8_221 xciX8 h0 dX8_checkNode_2 rfl rfl rfl (by decide) (fun G' _ _ _ _ => x_isNode0 G' l d h0 h1 h2 h3 hm hk1 hk2 hk) ?_
  refine t_if_ne (q := 8) 18 dX8_checkNode_5 (by decide) rfl (fun h => absurd rfl h) (fun _ => ?_)
  exact t_throw (ik := 245) (is := 252) (ic := 249) (text := "no such node") hlt rfl aio_node (fun s hV => hV.1.2) (by omega) (by decide) dX8_checkNode_8 dX8_checkNode_11 dX8_checkNode_12 dX8_checkNode_14 dX8_checkNode_17
theorem t_lload_n {G : xG} {l : Launch} {Y : xY} {d : Nat} {pc q : Nat} {ls : List (Nat × Value)} {st : List Value} {M : xM} {N S : Nat} {i : Fin 4} {x : Int64} (hd : decode Y.2.1 pc = .ok (.lload_n i, 1)) (hq : pc + 1 = q) (hv : xget ls i = some (.long x)) (k : thX G l Y d q ls (.long x :: st) M N S) : thX G l Y d pc ls st M N S := by
  subst hq
  intro p e R s m args below meth c H locs lsA hF hH
  exact lv_lload_n hF.1 hF.2.1 hd rfl (xget_at hH.1 hv) (k p e R s m args below meth c H locs lsA hF hH)
theorem t_member {G : xG} {l : Launch} (hlt : l.stackTraces = false) {d : Nat} (hd7 : 7 ≤ d) {M : xM} {N S a0 a1 mm : Nat} {fs0 fs1 : List Value} (h0 : M a0 = some (.inr (11, fs0))) (h1 : fs0[0]? = some (.ref a1)) (h2 : M a1 = some (.inr (4, fs1))) (h3 : fs1[6]? = some (.int (nI mm))) (hm : mm ≤ 3) {k : Int} {L E : Int64} (hk1 : -2147483648 ≤ k) (hk2 : k < 2147483648) (hk : k < 0 ∨ (mm : Int) ≤ k) : thC G l YX8_member (d + 1) [.ref a0, .int (iI k), .long L, .long E] M N S := by
  refine thC.of (ls := [(0, .ref a0), (1, .int (iI k)), (2, .long L), (4, .long E)]) (by decide) (Nat.le_of_ble_eq_true rfl) rfl ?_
  refine t_aload_n (q := 1) dX8_member_0 rfl rfl ?_
  refine t_iload_n (q := 2) dX8_member_1 rfl rfl ?_
  exact t_callX (Y' := YX8_checkBeam) (As := [.int (iI k)]) (rest := []) imX8_checkBeam ivX8_checkBeam ilX8_checkBeam mwX8_105 xciX8 h0 dX8_member_2 rfl rfl (by decide) (t_checkBeam hlt hd7 h0 h1 h2 h3 hm hk1 hk2 hk)
theorem t_hinge {G : xG} {l : Launch} (hlt : l.stackTraces = false) {d : Nat} (hd7 : 7 ≤ d) {M : xM} {N S a0 a1 mm : Nat} {fs0 fs1 : List Value} (h0 : M a0 = some (.inr (11, fs0))) (h1 : fs0[0]? = some (.ref a1)) (h2 : M a1 = some (.inr (4, fs1))) (h3 : fs1[6]? = some (.int (nI mm))) (hm : mm ≤ 3) {k : Int} {a b : Int32} (hk1 : -2147483648 ≤ k) (hk2 : k < 2147483648) (hk : k < 0 ∨ (mm : Int) ≤ k) : thC G l YX8_hinge (d + 1) [.ref a0, .int (iI k), .int a, .int b] M N S := by
  refine thC.of (ls := [(0, .ref a0), (1, .int (iI k)), (2, .int a), (3, .int b)]) (by decide) (Nat.le_of_ble_eq_true rfl) rfl ?_
  refine t_aload_n (q := 1) dX8_hinge_0 rfl rfl ?_
  refine t_iload_n (q := 2) dX8_hinge_1 rfl rfl ?_
  exact t_callX (Y' := YX8_checkBeam) (As := [.int (iI k)]) (rest := []) imX8_checkBeam ivX8_checkBeam ilX8_checkBeam mwX8_105 xciX8 h0 dX8_hinge_2 rfl rfl (by decide) (t_checkBeam hlt hd7 h0 h1 h2 h3 hm hk1 hk2 hk)
theorem t_support {G : xG} {l : Launch} (hlt : l.stackTraces = false) {d : Nat} (hd7 : 6 ≤ d) {M : xM} {N S a0 a1 mm : Nat} {fs0 fs1 : List Value} (h0 : M a0 = some (.inr (11, fs0))) (h1 : fs0[0]? = some (.ref a1)) (h2 : M a1 = some (.inr (4, fs1))) (h3 : fs1[6]? = some (.int (nI mm))) (hm : mm ≤ 3) {k : Int} {a b : Int32} (hk1 : -2147483648 ≤ k) (hk2 : k < 2147483648) (hk : k < 0 ∨ (mm : Int) < k) : thC G l YX8_support (d + 2) [.ref a0, .int (iI k), .int a, .int b] M N S := by
  refine thC.of (ls := [(0, .ref a0), (1, .int (iI k)), (2, .int a), (3, .int b)]) (by decide) (Nat.le_of_ble_eq_true rfl) rfl ?_
  refine t_aload_n (q := 1) dX8_support_0 rfl rfl ?_
  refine t_iload_n (q := 2) dX8_support_1 rfl rfl ?_
  exact t_callX (Y' := YX8_checkNode) (As := [.int (iI k)]) (rest := []) imX8_checkNode ivX8_checkNode ilX8_checkNode mwX8_120 xciX8 h0 dX8_support_2 rfl rfl (by decide) (t_checkNode hlt hd7 h0 h1 h2 h3 hm hk1 hk2 hk)
/-! a frame with an exception table -/
def yX (G : xG) (l : Launch) (Y : xY) (d : Nat) (Q : xPost) (tab : List ExceptionTableEntry) (pc : Nat) (ls : List (Nat × Value)) (st : List Value) (M : xM) (N S : Nat) : Prop :=
  ∀ (p : Program) (e : Env) (R : Room) (s : State) (m : MethodId) (args : Array Value) (below : List Frame) (meth : Method) (c : Code) (H : Heap) (locs : List Loc) (lsA : Array Slot),
    xF G Y d p R s m args meth c → c.exceptionTable.toList = tab → xHd G Y ls M N S s H locs lsA →
    W p l e R s m args below meth c H locs (N - s.heap.size) (S - xsl s.heap) (MQ below (xQ G Q) args s (G.2.2.2.2.1 - s.heap.size) (G.2.2.2.2.2 - xsl s.heap) (fun q => G.2.2.1 ≤ q)) (F0 m pc lsA st)
theorem yX.of {G : xG} {l : Launch} {Y : xY} {d : Nat} {Q : xPost} {tab : List ExceptionTableEntry} {pc : Nat} {ls : List (Nat × Value)} {st : List Value} {M : xM} {N S : Nat} (h : xX G l Y d Q pc ls st M N S) : yX G l Y d Q tab pc ls st M N S :=
  fun p e R s m args below meth c H locs lsA hF _ hH => h p e R s m args below meth c H locs lsA hF hH
section
variable {G : xG} {l : Launch} {Y : xY} {d : Nat} {Q : xPost} {tab : List ExceptionTableEntry} {pc q : Nat} {ls : List (Nat × Value)} {st : List Value} {M : xM} {N S : Nat}
theorem y_aload {i : Nat} {x : Nat} (hd : decode Y.2.1 pc = .ok (.aload i, 2)) (hq : pc + 2 = q) (hv : xget ls i = some (.ref x)) (k : yX G l Y d Q tab q ls (.ref x :: st) M N S) : yX G l Y d Q tab pc ls st M N S := by
  subst hq
  intro p e R s m args below meth c H locs lsA hF ht hH
  exact lv_aload hF.1 hF.2.1 hd (xget_at hH.1 hv) (k p e R s m args below meth c H locs lsA hF ht hH)
theorem y_aload_n {i : Fin 4} {x : Nat} (hd : decode Y.2.1 pc = .ok (.aload_n i, 1)) (hq : pc + 1 = q) (hv : xget ls i = some (.ref x)) (k : yX G l Y d Q tab q ls (.ref x :: st) M N S) : yX G l Y d Q tab pc ls st M N S := by
  subst hq
  intro p e R s m args below meth c H locs lsA hF ht hH
  exact lv_aload_n hF.1 hF.2.1 hd rfl (xget_at hH.1 hv) (k p e R s m args below meth c H locs lsA hF ht hH)
theorem y_iload_n {i : Fin 4} {x : Int32} (hd : decode Y.2.1 pc = .ok (.iload_n i, 1)) (hq : pc + 1 = q) (hv : xget ls i = some (.int x)) (k : yX G l Y d Q tab q ls (.int x :: st) M N S) : yX G l Y d Q tab pc ls st M N S := by
  subst hq
  intro p e R s m args below meth c H locs lsA hF ht hH
  exact lv_iload_n hF.1 hF.2.1 hd rfl (xget_at hH.1 hv) (k p e R s m args below meth c H locs lsA hF ht hH)
theorem y_lload_n {i : Fin 4} {x : Int64} (hd : decode Y.2.1 pc = .ok (.lload_n i, 1)) (hq : pc + 1 = q) (hv : xget ls i = some (.long x)) (k : yX G l Y d Q tab q ls (.long x :: st) M N S) : yX G l Y d Q tab pc ls st M N S := by
  subst hq
  intro p e R s m args below meth c H locs lsA hF ht hH
  exact lv_lload_n hF.1 hF.2.1 hd rfl (xget_at hH.1 hv) (k p e R s m args below meth c H locs lsA hF ht hH)
theorem y_lload {i : Nat} {x : Int64} (hd : decode Y.2.1 pc = .ok (.lload i, 2)) (hq : pc + 2 = q) (hv : xget ls i = some (.long x)) (k : yX G l Y d Q tab q ls (.long x :: st) M N S) : yX G l Y d Q tab pc ls st M N S := by
  subst hq
  intro p e R s m args below meth c H locs lsA hF ht hH
  exact lv_lload hF.1 hF.2.1 hd (xget_at hH.1 hv) (k p e R s m args below meth c H locs lsA hF ht hH)
theorem y_iconst {n : Int} (v : Int32) (hd : decode Y.2.1 pc = .ok (.iconst n, 1)) (hq : pc + 1 = q) (hv : Int32.ofInt n = v) (k : yX G l Y d Q tab q ls (.int v :: st) M N S) : yX G l Y d Q tab pc ls st M N S := by
  subst hq
  intro p e R s m args below meth c H locs lsA hF ht hH
  exact lv_iconst hF.1 hF.2.1 hd hv (k p e R s m args below meth c H locs lsA hF ht hH)
/-- a call that throws, caught by the one row of the table -/
theorem y_try {Y' : xY} {n index : Nat} {b ci : Nat} {fs : List Value} {As rest : List Value} {x : ExceptionTableEntry} (hm : xm Y' n) (hw1 : Cond.instanceMethod Y'.1 ∈ xW) (hw2 : Cond.selects Y'.1.cls Y'.1 Y'.1 ∈ xW) (hw : Cond.methodLink Y.1.cls index Y'.1 ∈ xW) (hci : ∃ T n, vwCl[ci]? = some (Y'.1.cls, T, n)) (hM : M b = some (.inr (ci, fs))) (hd : decode Y.2.1 pc = .ok (.invokevirtual index, 3)) (hst : st = As.reverse ++ .ref b :: rest) (hn : As.length = n) (hr : (rest.map fun v => v.category).sum ≤ 8)
    (htab : tab = [x]) (hx : covers x pc = true) (hx0 : x.catchType ≠ 0) (hwc : Cond.classLink Y.1.cls x.catchType AIO ∈ xW) (hwk : Cond.castable AIO AIO ∈ xN) (hN1 : N + 1 ≤ G.2.2.2.2.1) (hS1 : S + 6 ≤ G.2.2.2.2.2)
    (hC : thC G l Y' d (.ref b :: As) M N S) (kk : ∀ q N' S', N' ≤ N + 1 → S' ≤ S + 6 → xX G l Y (d + 1) Q x.handlerPc ls [.ref q] M N' S') : yX G l Y (d + 1) Q tab pc ls st M N S := by
  intro p e R s m args below meth c H locs lsA hF ht hH
  have hF' := hF
  obtain ⟨hx1, hb, -, -, hml, hown, -, hts, hK, hB, rfl⟩ := hF'
  have hH' := hH
  obtain ⟨hl, hP, hN, hS, h3, h4, hlo, h5, h6⟩ := hH'
  have hpre : ∀ U : State, U.heap = H → s.WarmedH U.vm → va_Pc (.ref b :: As) (fun U => U.heap.size = N ∧ xsl U.heap = S ∧ xP G M U.heap ∧ xK G U) (.ref b :: As).toArray U := fun U hU hW => ⟨rfl, by rw [hU]; exact hN, by rw [hU]; exact hS, by rw [hU]; exact hP, hK.warm hW⟩
  have hrec : ∃ cell : Cell, H[b]? = some cell ∧ cell.vm.isStatics = false ∧ s.vm.findClass Y'.1.cls = some cell.cls := by
    obtain ⟨T0, n0, hci⟩ := hci
    exact va_recv (cl := vwCl) (ws := [(b, .inr (ci, fs))]) hK.1 (hP.one hM) hci (q0 := 0) rfl
  have hcb : CallB (xR G (d + 1) s.heap.size (xsl s.heap)) s args Y.1.cls index Y'.1 Y'.2.1 Y'.2.2.1 Y'.2.2.2 (Cond.code Y'.1 Y'.2.1 Y'.2.2.1 Y'.2.2.2 :: xW) (thR d) 1 6 n := callB_of n hts hm.good rfl rfl rfl (hts _ hm.2.1) (hts _ hw) hm.2.2.1 ⟨Nat.le_refl _, by have := hm.2.2.2; unfold xR thR; dsimp only; omega⟩
  have hrun := vx_runV (p := p) (l := l) (e := e) (below := below) (meth := meth) (locs := locs) (cells := N - s.heap.size) (slots := S - xsl s.heap) (H := H) (rest := rest) (nL := Y.2.2.1) (n := n) (g := F0 m pc lsA st) ⟨hx1, hb, hml, hown, hts⟩ hC ⟨hcb, hts _ hw1, hts _ hw2⟩ ⟨xPre_blind, hrec, hpre⟩ rfl hn hl.1 hst (by show 2 * 0 + _ ≤ 8; omega) hd ⟨by unfold xR; dsimp only; omega, by unfold xR; dsimp only; omega⟩
  intro T hT X
  rcases hrun T hT X with ⟨v, st₀, t, T', L, -, -, -, -, -, hF0, -⟩ | ⟨q, st₀, t, T', L, E, ce, h0, X', hL, e1, e2, ⟨rfl, hxp⟩, hce, hcv, hcl, go⟩
  · exact hF0.elim
  · have y0 := vx_frame (U := T') (s := s) X'.same
    have y2 := xsl_drop X'
    have y3 := X'.heapSize
    have y4 : ((T'.heap.toList.drop s.heap.size).map (fun c => c.slots.size)).sum ≤ S - xsl s.heap + 6 := by
      obtain ⟨-, -, -, -, a5, -⟩ := X'.same
      exact a5
    have X2 := x_tight X' (k := T'.heap.size - s.heap.size) (n := xsl T'.heap - xsl s.heap) (by omega) (by omega)
    have hk := kk q T'.heap.size (xsl T'.heap) (by omega) (by omega) p e _ s m args below meth c T'.heap (locs ++ L) lsA hF ⟨hl, by rw [e1]; exact hxp, rfl, rfl, y0.1, by omega, fun z hz => by
      rcases List.mem_append.mp hz with h | h
      · exact hlo z h
      · exact hL z h, by omega, by omega⟩
    obtain ⟨t2, a1, b1⟩ := vy_catch (own := Y.1.cls) (name := AIO) (E := AIO) (pc := pc) (rest := rest) hown x (ht.trans htab) hx hx0 (hts _ hwc) (va_Nw.use (xN_on hwk) (hK.2.1 _ hwk)) (by rw [e1]; exact hce) hcv hcl hk T' rfl X2
    exact ⟨t2, go.trans a1, b1⟩
end
/-- a method with an exception table, called so, returns with Q -/
def xCW (G : xG) (l : Launch) (Y : xY) (hh : List (Nat × Nat × Nat × Nat)) (d : Nat) (av : List Value) (M : xM) (N S : Nat) (Q : xPost) : Prop := N ≤ G.2.2.2.2.1 → S ≤ G.2.2.2.2.2 →
  Met l Y.1 (Cond.codeWith Y.1 Y.2.1 Y.2.2.1 Y.2.2.2 hh :: xW) (xR G d N S) (va_Pc av (fun U => U.heap.size = N ∧ xsl U.heap = S ∧ xP G M U.heap ∧ xK G U)) (xQ G Q) (G.2.2.2.2.1 - N) (G.2.2.2.2.2 - S) (fun q => G.2.2.1 ≤ q)
theorem xCW.of {G : xG} {l : Launch} {Y : xY} {hh : List (Nat × Nat × Nat × Nat)} {d : Nat} {av : List Value} {M : xM} {N S : Nat} {Q : xPost} {ls : List (Nat × Value)} (hpl : plainName Y.1.cls = true) (hlen : (lg_sl av).length ≤ Y.2.2.1) (hls : lv_args 0 av = ls) (hX : yX G l Y d Q (tableOf hh) 0 ls [] M N S) : xCW G l Y hh d av M N S Q := by
  intro hN hS
  refine va_MetW (cc := Y.2.1) (maxL := Y.2.2.1) (ret := Y.2.2.2) (hh := hh) hpl rfl ?_
  intro p e s m args below meth c s₁ B hml hv
  obtain ⟨rfl, hsz, hsl, hP, hK⟩ := hv
  have hts := atoms_spec (ws := Cond.codeWith Y.1 Y.2.1 Y.2.2.1 Y.2.2.2 hh :: xW) B.pre
  have hown : s.vm.findClass Y.1.cls = some m.cls := findClass_of_methodNamed B.named
  have htab : c.exceptionTable.toList = tableOf hh := vx_table (x := Y.1) B (hts _ List.mem_cons_self)
  subst hsz; subst hsl
  have hl := lv_entry av (n := Y.2.2.1) hlen
  rw [lg_entry_eq]
  have h := hX p e _ s m av.toArray below meth c s.heap [] _ ⟨B.exec, B.bytes, B.returns, B.notSynchronized, hml, hown, (name_of_methodNamed B.named B.method).1, fun w h => hts w (List.mem_cons_of_mem _ h), hK, hP.2.2, rfl⟩ htab ⟨hls ▸ hl, hP, rfl, rfl, Nat.le_refl _, Nat.le_refl _, fun q h => absurd h List.not_mem_nil, hN, hS⟩
  rw [Nat.sub_self, Nat.sub_self] at h
  exact h
theorem xCW.mono {G : xG} {l : Launch} {Y : xY} {hh : List (Nat × Nat × Nat × Nat)} {d : Nat} {av : List Value} {M : xM} {N S : Nat} {Q Q' : xPost} (h : xCW G l Y hh d av M N S Q) (hq : ∀ r M' N' S', Q r M' N' S' → Q' r M' N' S') : xCW G l Y hh d av M N S Q' := by
  intro hN hS p e ha hc hk st m args below hf happ hp hK
  obtain ⟨t, o, h1, h2, h3, ⟨⟨r, M', h4, h5, h6, h7⟩, h8⟩⟩ := h hN hS p e ha hc hk st m args below hf happ hp hK
  exact ⟨t, o, h1, h2, h3, ⟨⟨r, M', h4, h5, hq _ _ _ _ h6, h7⟩, h8⟩⟩
theorem x_callSW {G : xG} {l : Launch} {Y : xY} {d : Nat} {Q : xPost} {pc q : Nat} {ls : List (Nat × Value)} {st : List Value} {M : xM} {N S : Nat} {Y' : xY} {hh : List (Nat × Nat × Nat × Nat)} {n index : Nat} {As rest : List Value} (hm1 : Cond.codeWith Y'.1 Y'.2.1 Y'.2.2.1 Y'.2.2.2 hh ∈ xW) (hm2 : Cond.initialized Y'.1.cls ∈ xW) (hm3 : Y'.1.cls ≠ "java/lang/invoke/MethodHandle" ∧ Y'.1.cls ≠ "java/lang/invoke/VarHandle" ∧ (parseMethodDescriptor Y'.1.desc).map (fun d => d.parameters.length) = some n) (hm4 : Y'.2.2.1 ≤ 21) (hw1 : Cond.static Y'.1 ∈ xW) (hw : Cond.methodLink Y.1.cls index Y'.1 ∈ xW) (hd : decode Y.2.1 pc = .ok (.invokestatic index, 3)) (hq : pc + 3 = q) (hst : st = As.reverse ++ rest) (hn : As.length = n) (hr : (rest.map fun v => v.category).sum ≤ 8) (hC : xCW G l Y' hh d As M N S (fun r M' N' S' => xX G l Y (d + 1) Q q ls (r.toList ++ rest) M' N' S')) : xX G l Y (d + 1) Q pc ls st M N S := by
  subst hq
  intro p e R s m args below meth c H locs lsA hF hH
  have hF' := hF
  obtain ⟨hx, hb, -, -, hml, hown, -, hts, hK, hB, rfl⟩ := hF'
  have hs1 := hH.2.2.2.2.1
  have hs2 := hH.2.2.2.2.2.1
  have h5 := hH.2.2.2.2.2.2.2.1
  have h6 := hH.2.2.2.2.2.2.2.2
  have hpre : ∀ U : State, U.heap = H → s.WarmedH U.vm → va_Pc As (fun U => U.heap.size = N ∧ xsl U.heap = S ∧ xP G M U.heap ∧ xK G U) As.toArray U := fun U hU hW => ⟨rfl, by rw [hU]; exact hH.2.2.1, by rw [hU]; exact hH.2.2.2.1, by rw [hU]; exact hH.2.1, hK.warm hW⟩
  have hgood : GoodIn xW (va_wsS Y.1.cls index Y'.1 (Cond.codeWith Y'.1 Y'.2.1 Y'.2.2.1 Y'.2.2.2 hh :: xW)) := fun w hw9 => by
    have h9 : w ∈ xW := by
      unfold va_wsS at hw9
      simp only [List.cons_append, List.nil_append, List.mem_cons] at hw9
      rcases hw9 with rfl | rfl | rfl | rfl | h
      · exact hw
      · exact hw1
      · exact hm2
      · exact hm1
      · exact h
    exact xW_good _ h9
  have hcw : vx_CSW (xR G (d + 1) s.heap.size (xsl s.heap)) s args Y.1.cls index Y'.1 Y'.2.1 Y'.2.2.1 Y'.2.2.2 hh (Cond.codeWith Y'.1 Y'.2.1 Y'.2.2.1 Y'.2.2.2 hh :: xW) (xR G d N S) (G.2.2.2.2.1 - N) (G.2.2.2.2.2 - S) n :=
    vx_cwSW n hts hgood rfl rfl rfl hm3 ⟨Nat.le_refl _, by unfold xR; dsimp only; omega⟩
  exact x_after hF hH (vx_runSW (As := As) (rest := rest) (nL := Y.2.2.1) (n := n) ⟨hx, hb, hml, hown, hts⟩ (hC h5 h6) hcw ⟨xPre_blind, hpre⟩ rfl hn hH.1.1 hst (by show 2 * 0 + _ ≤ 8; omega) hd ⟨by unfold xR; dsimp only; omega, by unfold xR; dsimp only; omega⟩)
end XT1
