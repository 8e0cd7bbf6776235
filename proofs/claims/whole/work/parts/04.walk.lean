
section XA
/-! A world without places: memory is a map from addresses to cells; the heap's size and slots are counted exactly. -/
abbrev xE : Type := (FieldType × vp_A) ⊕ (Nat × List Value)
abbrev xM : Type := Nat → Option xE
/-- classes and slots; array classes; the first address of ours; the heap below it; how far the heap may grow in cells, in slots -/
abbrev xG : Type := va_G × (FieldType → ClassId) × Nat × Heap × Nat × Nat
abbrev xY : Type := MethodName × ByteArray × Nat × Option FieldType
abbrev xPost : Type := Option Value → xM → Nat → Nat → Prop
def xcv (G : xG) (e : xE) : va_E := match e with
  | .inl a => .inl (G.2.1 a.1, a.2)
  | .inr o => .inr o
def xup (M : xM) (a : Nat) (e : xE) : xM := fun b => if b = a then some e else M b
theorem xup_s (M : xM) (a : Nat) (e : xE) : xup M a e a = some e := if_pos rfl
theorem xup_n {M : xM} {a b : Nat} {e : xE} (h : b ≠ a) : xup M a e b = M b := if_neg h
def xP (G : xG) (M : xM) (H : Heap) : Prop := (∀ (a : Nat) (e : xE), M a = some e → va_at G.1 vwCl (a, xcv G e) H ∧ G.2.2.1 ≤ a) ∧ (∀ q : Nat, q < G.2.2.1 → H[q]? = G.2.2.2.1[q]?) ∧ G.2.2.1 ≤ H.size
def xsl (H : Heap) : Nat := (H.toList.map (fun c => c.slots.size)).sum
def xnest (w : Cond) : Bool := match w with
  | .fieldLinkNest .. => true
  | .methodLinkNest .. => true
  | .castable .. => true
  | .declares .. => true
  | _ => false
def xW : List Cond := lw_tbl.filter goodWord
def xN : List Cond := lw_tbl.filter xnest
abbrev xtys (G : xG) : List (ClassId × FieldType) := [(G.2.1 .int, .int), (G.2.1 .long, .long), (G.2.1 .boolean, .boolean), (G.2.1 (.object RX2), .object RX2)]
def facF (j : Nat) : Int32 := Int32.ofInt (([12, 6, -12, 6, 6, 4, -6, 2, -12, -6, 12, -6, 6, 2, -6, 4] : List Int).getD j 0)
/-- a row of ints below our first address: its class by a name of ours -/
def rArr (G : xG) (nm : String) (a n : Nat) (f : Nat → Int32) : Prop := a < G.2.2.1 ∧ ∃ cell : Cell, G.2.2.2.1[a]? = some cell ∧ cell.cls = G.2.1 (.object nm) ∧ (∀ k, cell.vm ≠ .statics k) ∧ cell.vm ≠ .unknown ∧ (n ≤ cell.slots.size ∧ cell.slots.size.toInt32 = Int32.ofNat n) ∧ ∀ j : Nat, j < n → cell.slots[j]? = some (.int (f j))
def aCl (G : xG) (nm : String) (s : State) : Prop := ∃ k, s.vm.classes[G.2.1 (.object nm)]? = some k ∧ ∃ comp, k.kind = .array comp .int
theorem aCl.moved {G : xG} {nm : String} {u U : State} (h : u.vm.Alike U.vm) (hc : aCl G nm u) : aCl G nm U := by
  obtain ⟨k, hk, comp, hkind⟩ := hc
  obtain ⟨k', hk', he⟩ := h.2.2 _ _ hk
  exact ⟨k', hk', comp, by rw [he]; exact hkind⟩
/-- where the class's table of factors lies -/
def facAt (G : xG) (fa : Nat) : Prop := rArr G "FACTOR" fa 16 facF
/-- what a throw needs of the machine -/
def xV (G : xG) (s : State) : Prop := ((∃ sa, vk_R "InfluenceRows" 247 "no such beam" sa s) ∧ ∃ sa, vk_R "InfluenceRows" 252 "no such node" sa s) ∧ (aCl G "FACTOR" s ∧ aCl G "SCRIPT" s) ∧ vx_Zq Bundle.tN "UNASSIGNED_STACK" Bundle.steD (fun q => G.2.2.1 ≤ q) s G.2.2.2.1 ∧ vx_Zq Bundle.tN "SUPPRESSED_SENTINEL" Bundle.listD (fun q => G.2.2.1 ≤ q) s G.2.2.2.1
theorem xV.same {G : xG} {u U : State} (h : u.vm = U.vm) (hV : xV G u) : xV G U := by
  obtain ⟨⟨⟨sa, h1⟩, ⟨sb, h2⟩⟩, h3, h4, h5⟩ := hV
  have ha : u.vm.Alike U.vm := by rw [h]; exact Vm.Alike.refl _
  exact ⟨⟨⟨sa, vk_R.same h.symm h1⟩, ⟨sb, vk_R.same h.symm h2⟩⟩, ⟨h3.1.moved ha, h3.2.moved ha⟩, vx_Zq.moved ha h4, vx_Zq.moved ha h5⟩
theorem xV.warm {G : xG} {s U : State} (hW : s.WarmedH U.vm) (hV : xV G s) : xV G U := by
  obtain ⟨⟨⟨sa, h1⟩, ⟨sb, h2⟩⟩, h3, h4, h5⟩ := hV
  exact ⟨⟨⟨sa, vk_R.warm hW h1⟩, ⟨sb, vk_R.warm hW h2⟩⟩, ⟨h3.1.moved hW.alike, h3.2.moved hW.alike⟩, vx_Zq.moved hW.alike h4, vx_Zq.moved hW.alike h5⟩
def xZ (G : xG) (s : State) : Prop := ∃ fa : Nat, facAt G fa ∧ va_Z "InfluenceRows$Frame" "FACTOR" "[I" (.ref fa) (fun q => G.2.2.1 ≤ q) s G.2.2.2.1
def xK (G : xG) (s : State) : Prop := va_K G.1 vwCl (xtys G) s ∧ (∀ w ∈ xN, va_Nw w s) ∧ (va_AO RX2 s ∧ xV G s) ∧ xZ G s
theorem xZ.moved {G : xG} {u U : State} (h : u.vm.Alike U.vm) (hZ : xZ G u) : xZ G U := by
  obtain ⟨fa, h1, h2⟩ := hZ
  exact ⟨fa, h1, va_Z.moved h h2⟩
def xR (G : xG) (d N S : Nat) : Room := { frames := d, cells := G.2.2.2.2.1 - N, slots := G.2.2.2.2.2 - S, locals := 40 * d }
def xF (G : xG) (Y : xY) (d : Nat) (p : Program) (R : Room) (s : State) (m : MethodId) (args : Array Value) (meth : Method) (c : Code) : Prop :=
  p.tables.exec = Jvm.exec ∧ c.code = Y.2.1 ∧ meth.sig.returnType = Y.2.2.2 ∧ meth.locks = false ∧ c.maxLocals = Y.2.2.1 ∧ s.vm.findClass Y.1.cls = some m.cls ∧ meth.name = Y.1.name ∧ (∀ w ∈ xW, w.before args s = true) ∧ xK G s ∧ G.2.2.1 ≤ s.heap.size ∧ R = xR G d s.heap.size (xsl s.heap)
def xHd (G : xG) (Y : xY) (ls : List (Nat × Value)) (M : xM) (N S : Nat) (s : State) (H : Heap) (locs : List Loc) (lsA : Array Slot) : Prop :=
  lv_has lsA Y.2.2.1 ls ∧ xP G M H ∧ H.size = N ∧ xsl H = S ∧ s.heap.size ≤ N ∧ xsl s.heap ≤ S ∧ (∀ q ∈ locs, G.2.2.1 ≤ q.base) ∧ N ≤ G.2.2.2.2.1 ∧ S ≤ G.2.2.2.2.2
def xQ (G : xG) (Q : xPost) : Array Value → State → Outcome → State → Prop := fun _ st o t => ∃ (r : Option Value) (M' : xM), o = .returned r ∧ xP G M' t.heap ∧ Q r M' t.heap.size (xsl t.heap) ∧ st.heap.size ≤ t.heap.size ∧ xsl st.heap ≤ xsl t.heap ∧ t.heap.size ≤ G.2.2.2.2.1 ∧ xsl t.heap ≤ G.2.2.2.2.2
/-- the machine in a frame of method Y at pc, with these locals, this stack, this memory, comes to its return with Q -/
def xX (G : xG) (l : Launch) (Y : xY) (d : Nat) (Q : xPost) (pc : Nat) (ls : List (Nat × Value)) (st : List Value) (M : xM) (N S : Nat) : Prop :=
  ∀ (p : Program) (e : Env) (R : Room) (s : State) (m : MethodId) (args : Array Value) (below : List Frame) (meth : Method) (c : Code) (H : Heap) (locs : List Loc) (lsA : Array Slot),
    xF G Y d p R s m args meth c → xHd G Y ls M N S s H locs lsA →
    W p l e R s m args below meth c H locs (N - s.heap.size) (S - xsl s.heap) (MQ below (xQ G Q) args s (G.2.2.2.2.1 - s.heap.size) (G.2.2.2.2.2 - xsl s.heap) (fun q => G.2.2.1 ≤ q)) (F0 m pc lsA st)
/-- method Y called with these arguments in this memory returns with Q -/
def xC (G : xG) (l : Launch) (Y : xY) (d : Nat) (av : List Value) (M : xM) (N S : Nat) (Q : xPost) : Prop := N ≤ G.2.2.2.2.1 → S ≤ G.2.2.2.2.2 →
  Met l Y.1 (Cond.code Y.1 Y.2.1 Y.2.2.1 Y.2.2.2 :: xW) (xR G d N S) (va_Pc av (fun U => U.heap.size = N ∧ xsl U.heap = S ∧ xP G M U.heap ∧ xK G U)) (xQ G Q) (G.2.2.2.2.1 - N) (G.2.2.2.2.2 - S) (fun q => G.2.2.1 ≤ q)
theorem xsl_eq {H H1 : Heap} (h : ∀ q : Nat, (H1[q]?).map (fun c => c.slots.size) = (H[q]?).map (fun c => c.slots.size)) : xsl H1 = xsl H := by
  unfold xsl
  congr 1
  apply List.ext_getElem?
  intro i
  rw [List.getElem?_map, List.getElem?_map, Array.getElem?_toList, Array.getElem?_toList]
  exact h i
theorem xsl_push (H : Heap) (c : Cell) : xsl (H.push c) = xsl H + c.slots.size := by
  simp [xsl]
theorem xsl_set {H H1 : Heap} {a : Nat} {c c' : Cell} (h0 : H[a]? = some c) (h1 : H1[a]? = some c') (hs : c'.slots.size = c.slots.size) (ho : ∀ q : Nat, q ≠ a → H1[q]? = H[q]?) : xsl H1 = xsl H := by
  refine xsl_eq fun q => ?_
  by_cases hq : q = a
  · subst hq
    rw [h0, h1]
    simp [hs]
  · rw [ho q hq]
theorem xcell_size (c : Cell) (i : Nat) (v : Value) : (c.setSlot i v).slots.size = c.slots.size := by simp [Cell.setSlot]
theorem xP.one {G : xG} {M : xM} {H : Heap} (h : xP G M H) {a : Nat} {e : xE} (he : M a = some e) : va_P G.1 vwCl [(a, xcv G e)] H := by
  intro k q hq
  have hz : k < 1 := (List.getElem?_eq_some_iff.mp hq).1
  rw [show k = 0 by omega] at hq
  cases hq
  exact (h.1 a e he).1
theorem xP.set {G : xG} {M : xM} {H H1 : Heap} {a : Nat} {e0 e : xE} (h : xP G M H) (h0 : M a = some e0) (he : va_at G.1 vwCl (a, xcv G e) H1) (hz : H1.size = H.size) (ho : ∀ q : Nat, q ≠ a → H1[q]? = H[q]?) : xP G (xup M a e) H1 := by
  refine ⟨fun b f hb => ?_, fun q hq => ?_, by rw [hz]; exact h.2.2⟩
  · by_cases hab : b = a
    · subst hab
      rw [xup_s] at hb
      cases hb
      exact ⟨he, (h.1 b e0 h0).2⟩
    · rw [xup_n hab] at hb
      exact ⟨(h.1 b f hb).1.kept (ho b hab), (h.1 b f hb).2⟩
  · have h2 := (h.1 a e0 h0).2
    rw [ho q (by omega)]
    exact h.2.1 q hq
theorem xP.push {G : xG} {M : xM} {H H1 : Heap} {a : Nat} {e : xE} (h : xP G M H) (ha : a = H.size) (he : va_at G.1 vwCl (a, xcv G e) H1) (hz : H1.size = H.size + 1) (ho : ∀ q : Nat, q < H.size → H1[q]? = H[q]?) : xP G (xup M a e) H1 := by
  refine ⟨fun b f hb => ?_, fun q hq => ?_, by rw [hz]; exact Nat.le_succ_of_le h.2.2⟩
  · by_cases hab : b = a
    · subst hab
      rw [xup_s] at hb
      cases hb
      exact ⟨he, by rw [ha]; exact h.2.2⟩
    · rw [xup_n hab] at hb
      have h1 := (h.1 b f hb).1
      exact ⟨h1.kept (ho b h1.lt), (h.1 b f hb).2⟩
  · rw [ho q (Nat.lt_of_lt_of_le hq h.2.2)]
    exact h.2.1 q hq
theorem xP.fresh {G : xG} {M : xM} {H : Heap} (h : xP G M H) {a : Nat} (ha : H.size ≤ a) : M a = none := by
  cases hM : M a with
  | none => rfl
  | some e => exact absurd (h.1 a e hM).1.lt (Nat.not_lt.mpr ha)
theorem xN_on {w : Cond} (h : w ∈ xN) : w.onTables = true := by
  have h := (List.mem_filter.mp h).2
  cases w <;> first | rfl | (simp [xnest] at h)
theorem xK.same {G : xG} {u U : State} (h : u.vm = U.vm) (hK : xK G u) : xK G U :=
  ⟨va_K.moved (by rw [h]; exact Vm.Alike.refl _) hK.1, fun w hw => va_Nw.same (xN_on hw) h (hK.2.1 w hw), ⟨va_AO.moved (by rw [h]; exact Vm.Alike.refl _) hK.2.2.1.1, hK.2.2.1.2.same h⟩, hK.2.2.2.moved (by rw [h]; exact Vm.Alike.refl _)⟩
theorem xn_cast {C T : String} {s U : State} (hW : s.WarmedH U.vm) (hZ : va_Nw (.castable C T) s) : va_Nw (.castable C T) U := va_tabs rfl (rfl : (s.setVm U.vm).vm = U.vm) (by rw [Cond.castable_setVm hW.alike]; exact hZ)
theorem xn_decl {x : MethodName} {s U : State} (hW : s.WarmedH U.vm) (hZ : va_Nw (.declares x) s) : va_Nw (.declares x) U := va_tabs rfl (rfl : (s.setVm U.vm).vm = U.vm) (by rw [Cond.declares_setVm hW.alike]; exact hZ)
theorem xN_warm {w : Cond} (hw : w ∈ xN) {s U : State} (hW : s.WarmedH U.vm) (h : va_Nw w s) : va_Nw w U := by
  have h2 := (List.mem_filter.mp hw).2
  cases w <;> first | exact va_Nw.warmF hW h | exact va_Nw.warmM hW h | exact xn_cast hW h | exact xn_decl hW h | (simp [xnest] at h2)
theorem xK.warm {G : xG} {s U : State} (hW : s.WarmedH U.vm) (hK : xK G s) : xK G U :=
  ⟨va_K.moved hW.alike hK.1, fun w hw => xN_warm hw hW (hK.2.1 w hw), ⟨va_AO.moved hW.alike hK.2.2.1.1, hK.2.2.1.2.warm hW⟩, hK.2.2.2.moved hW.alike⟩
theorem xW_good : GoodIn xW xW := fun w h => ⟨h, good_of_word (List.mem_filter.mp h).2⟩
section
variable {p : Program} {l : Launch} {e : Env} {R : Room} {s : State} {m : MethodId} {args : Array Value} {below : List Frame} {meth : Method} {c : Code} {T : State} {locs : List Loc} {cells slots : Nat}
theorem xsl_drop (X : Stand p l e R s m args below meth c T locs cells slots) : xsl T.heap = xsl s.heap + ((T.heap.toList.drop s.heap.size).map (fun c => c.slots.size)).sum := by
  obtain ⟨-, a2, -, -, -, a6⟩ := X.same
  have e1 : T.heap.toList.map (fun c => c.slots.size) = (T.heap.toList.take s.heap.size).map (fun c => c.slots.size) ++ (T.heap.toList.drop s.heap.size).map (fun c => c.slots.size) := by
    rw [← List.map_append, List.take_append_drop]
  unfold xsl
  rw [e1, List.sum_append]
  congr 2
  apply List.ext_getElem?
  intro i
  rw [List.getElem?_map, List.getElem?_map, List.getElem?_take, Array.getElem?_toList]
  by_cases hi : i < s.heap.size
  · rw [if_pos hi, Array.getElem?_toList, Array.getElem?_eq_getElem hi]
    obtain ⟨c', h1, -, h2, -⟩ := a6 i _ (Array.getElem?_eq_getElem hi)
    have h1 : T.heap[i]? = some c' := h1
    rw [h1]
    simp [h2]
  · rw [if_neg hi, Array.getElem?_toList, Array.getElem?_eq_none (by omega)]
theorem x_tight {k n : Nat} (X : Stand p l e R s m args below meth c T locs cells slots) (h1 : T.heap.size ≤ s.heap.size + k) (h2 : xsl T.heap ≤ xsl s.heap + n) : Stand p l e R s m args below meth c T locs k n := by
  have hd := xsl_drop X
  refine { X with same := ?_ }
  obtain ⟨a1, a2, a3, a4, a5, a6⟩ := X.same
  exact ⟨a1, a2, h1, a4, by show ((T.heap.toList.drop s.heap.size).map (fun c => c.slots.size)).sum ≤ n; omega, a6⟩
end
theorem xC.of {G : xG} {l : Launch} {Y : xY} {d : Nat} {av : List Value} {M : xM} {N S : Nat} {Q : xPost} {ls : List (Nat × Value)} (hpl : plainName Y.1.cls = true) (hlen : (lg_sl av).length ≤ Y.2.2.1) (hls : lv_args 0 av = ls) (hX : xX G l Y d Q 0 ls [] M N S) : xC G l Y d av M N S Q := by
  intro hN hS
  refine Met.ofW (cc := Y.2.1) (maxL := Y.2.2.1) (ret := Y.2.2.2) hpl rfl ?_
  intro p e s m args below meth c s₁ B hml hv
  obtain ⟨rfl, hsz, hsl, hP, hK⟩ := hv
  have hts := atoms_spec (ws := Cond.code Y.1 Y.2.1 Y.2.2.1 Y.2.2.2 :: xW) B.pre
  have hown : s.vm.findClass Y.1.cls = some m.cls := findClass_of_methodNamed B.named
  subst hsz; subst hsl
  have hl := lv_entry av (n := Y.2.2.1) hlen
  rw [lg_entry_eq]
  have h := hX p e _ s m av.toArray below meth c s.heap [] _ ⟨B.exec, B.bytes, B.returns, B.notSynchronized, hml, hown, (name_of_methodNamed B.named B.method).1, fun w h => hts w (List.mem_cons_of_mem _ h), hK, hP.2.2, rfl⟩ ⟨hls ▸ hl, hP, rfl, rfl, Nat.le_refl _, Nat.le_refl _, fun q h => absurd h List.not_mem_nil, hN, hS⟩
  rw [Nat.sub_self, Nat.sub_self] at h
  exact h
theorem xC.mono {G : xG} {l : Launch} {Y : xY} {d : Nat} {av : List Value} {M : xM} {N S : Nat} {Q Q' : xPost} (h : xC G l Y d av M N S Q) (hq : ∀ r M' N' S', Q r M' N' S' → Q' r M' N' S') : xC G l Y d av M N S Q' := by
  intro hN hS p e ha hc hk st m args below hf happ hp hK
  obtain ⟨t, o, h1, h2, h3, ⟨⟨r, M', h4, h5, h6, h7⟩, h8⟩⟩ := h hN hS p e ha hc hk st m args below hf happ hp hK
  exact ⟨t, o, h1, h2, h3, ⟨⟨r, M', h4, h5, hq _ _ _ _ h6, h7⟩, h8⟩⟩
section XR
variable {G : xG} {l : Launch} {Y : xY} {d : Nat} {Q : xPost} {pc q : Nat} {ls ls' : List (Nat × Value)} {st : List Value} {M : xM} {N S : Nat}
theorem x_iadd {x y : Int32} (hd : decode Y.2.1 pc = .ok (.iadd, 1)) (hq : pc + 1 = q)  (k : xX G l Y d Q q ls (.int (x + y) :: st) M N S) : xX G l Y d Q pc ls (.int y :: .int x :: st) M N S := by
  subst hq
  intro p e R s m args below meth c H locs lsA hF hH
  exact lv_iadd hF.1 hF.2.1 hd  (k p e R s m args below meth c H locs lsA hF hH)
theorem x_isub {x y : Int32} (hd : decode Y.2.1 pc = .ok (.isub, 1)) (hq : pc + 1 = q)  (k : xX G l Y d Q q ls (.int (x - y) :: st) M N S) : xX G l Y d Q pc ls (.int y :: .int x :: st) M N S := by
  subst hq
  intro p e R s m args below meth c H locs lsA hF hH
  exact lv_isub hF.1 hF.2.1 hd  (k p e R s m args below meth c H locs lsA hF hH)
theorem x_imul {x y : Int32} (hd : decode Y.2.1 pc = .ok (.imul, 1)) (hq : pc + 1 = q)  (k : xX G l Y d Q q ls (.int (x * y) :: st) M N S) : xX G l Y d Q pc ls (.int y :: .int x :: st) M N S := by
  subst hq
  intro p e R s m args below meth c H locs lsA hF hH
  exact lv_imul hF.1 hF.2.1 hd  (k p e R s m args below meth c H locs lsA hF hH)
theorem x_iand {x y : Int32} (hd : decode Y.2.1 pc = .ok (.iand, 1)) (hq : pc + 1 = q)  (k : xX G l Y d Q q ls (.int (x &&& y) :: st) M N S) : xX G l Y d Q pc ls (.int y :: .int x :: st) M N S := by
  subst hq
  intro p e R s m args below meth c H locs lsA hF hH
  exact lv_iand hF.1 hF.2.1 hd  (k p e R s m args below meth c H locs lsA hF hH)
theorem x_ior {x y : Int32} (hd : decode Y.2.1 pc = .ok (.ior, 1)) (hq : pc + 1 = q)  (k : xX G l Y d Q q ls (.int (x ||| y) :: st) M N S) : xX G l Y d Q pc ls (.int y :: .int x :: st) M N S := by
  subst hq
  intro p e R s m args below meth c H locs lsA hF hH
  exact lv_ior hF.1 hF.2.1 hd  (k p e R s m args below meth c H locs lsA hF hH)
theorem x_ixor {x y : Int32} (hd : decode Y.2.1 pc = .ok (.ixor, 1)) (hq : pc + 1 = q)  (k : xX G l Y d Q q ls (.int (x ^^^ y) :: st) M N S) : xX G l Y d Q pc ls (.int y :: .int x :: st) M N S := by
  subst hq
  intro p e R s m args below meth c H locs lsA hF hH
  exact lv_ixor hF.1 hF.2.1 hd  (k p e R s m args below meth c H locs lsA hF hH)
theorem x_ladd {x y : Int64} (hd : decode Y.2.1 pc = .ok (.ladd, 1)) (hq : pc + 1 = q)  (k : xX G l Y d Q q ls (.long (x + y) :: st) M N S) : xX G l Y d Q pc ls (.long y :: .long x :: st) M N S := by
  subst hq
  intro p e R s m args below meth c H locs lsA hF hH
  exact lv_ladd hF.1 hF.2.1 hd  (k p e R s m args below meth c H locs lsA hF hH)
theorem x_lsub {x y : Int64} (hd : decode Y.2.1 pc = .ok (.lsub, 1)) (hq : pc + 1 = q)  (k : xX G l Y d Q q ls (.long (x - y) :: st) M N S) : xX G l Y d Q pc ls (.long y :: .long x :: st) M N S := by
  subst hq
  intro p e R s m args below meth c H locs lsA hF hH
  exact lv_lsub hF.1 hF.2.1 hd  (k p e R s m args below meth c H locs lsA hF hH)
theorem x_lmul {x y : Int64} (hd : decode Y.2.1 pc = .ok (.lmul, 1)) (hq : pc + 1 = q)  (k : xX G l Y d Q q ls (.long (x * y) :: st) M N S) : xX G l Y d Q pc ls (.long y :: .long x :: st) M N S := by
  subst hq
  intro p e R s m args below meth c H locs lsA hF hH
  exact lv_lmul hF.1 hF.2.1 hd  (k p e R s m args below meth c H locs lsA hF hH)
theorem x_land {x y : Int64} (hd : decode Y.2.1 pc = .ok (.land, 1)) (hq : pc + 1 = q)  (k : xX G l Y d Q q ls (.long (x &&& y) :: st) M N S) : xX G l Y d Q pc ls (.long y :: .long x :: st) M N S := by
  subst hq
  intro p e R s m args below meth c H locs lsA hF hH
  exact lv_land hF.1 hF.2.1 hd  (k p e R s m args below meth c H locs lsA hF hH)
theorem x_lor {x y : Int64} (hd : decode Y.2.1 pc = .ok (.lor, 1)) (hq : pc + 1 = q)  (k : xX G l Y d Q q ls (.long (x ||| y) :: st) M N S) : xX G l Y d Q pc ls (.long y :: .long x :: st) M N S := by
  subst hq
  intro p e R s m args below meth c H locs lsA hF hH
  exact lv_lor hF.1 hF.2.1 hd  (k p e R s m args below meth c H locs lsA hF hH)
theorem x_lxor {x y : Int64} (hd : decode Y.2.1 pc = .ok (.lxor, 1)) (hq : pc + 1 = q)  (k : xX G l Y d Q q ls (.long (x ^^^ y) :: st) M N S) : xX G l Y d Q pc ls (.long y :: .long x :: st) M N S := by
  subst hq
  intro p e R s m args below meth c H locs lsA hF hH
  exact lv_lxor hF.1 hF.2.1 hd  (k p e R s m args below meth c H locs lsA hF hH)
theorem x_idiv {x y : Int32} (hd : decode Y.2.1 pc = .ok (.idiv, 1)) (hq : pc + 1 = q) (hne : ¬ y = 0) (k : xX G l Y d Q q ls (.int (x / y) :: st) M N S) : xX G l Y d Q pc ls (.int y :: .int x :: st) M N S := by
  subst hq
  intro p e R s m args below meth c H locs lsA hF hH
  exact lv_idiv hF.1 hF.2.1 hd hne (k p e R s m args below meth c H locs lsA hF hH)
theorem x_irem {x y : Int32} (hd : decode Y.2.1 pc = .ok (.irem, 1)) (hq : pc + 1 = q) (hne : ¬ y = 0) (k : xX G l Y d Q q ls (.int (x - x / y * y) :: st) M N S) : xX G l Y d Q pc ls (.int y :: .int x :: st) M N S := by
  subst hq
  intro p e R s m args below meth c H locs lsA hF hH
  exact lv_irem hF.1 hF.2.1 hd hne (k p e R s m args below meth c H locs lsA hF hH)
theorem x_ldiv {x y : Int64} (hd : decode Y.2.1 pc = .ok (.ldiv, 1)) (hq : pc + 1 = q) (hne : ¬ y = 0) (k : xX G l Y d Q q ls (.long (x / y) :: st) M N S) : xX G l Y d Q pc ls (.long y :: .long x :: st) M N S := by
  subst hq
  intro p e R s m args below meth c H locs lsA hF hH
  exact lv_ldiv hF.1 hF.2.1 hd hne (k p e R s m args below meth c H locs lsA hF hH)
theorem x_lrem {x y : Int64} (hd : decode Y.2.1 pc = .ok (.lrem, 1)) (hq : pc + 1 = q) (hne : ¬ y = 0) (k : xX G l Y d Q q ls (.long (x - x / y * y) :: st) M N S) : xX G l Y d Q pc ls (.long y :: .long x :: st) M N S := by
  subst hq
  intro p e R s m args below meth c H locs lsA hF hH
  exact lv_lrem hF.1 hF.2.1 hd hne (k p e R s m args below meth c H locs lsA hF hH)
theorem x_ineg {x : Int32} (hd : decode Y.2.1 pc = .ok (.ineg, 1)) (hq : pc + 1 = q)  (k : xX G l Y d Q q ls (.int (-x) :: st) M N S) : xX G l Y d Q pc ls (.int x :: st) M N S := by
  subst hq
  intro p e R s m args below meth c H locs lsA hF hH
  exact lv_ineg hF.1 hF.2.1 hd  (k p e R s m args below meth c H locs lsA hF hH)
theorem x_lneg {x : Int64} (hd : decode Y.2.1 pc = .ok (.lneg, 1)) (hq : pc + 1 = q)  (k : xX G l Y d Q q ls (.long (-x) :: st) M N S) : xX G l Y d Q pc ls (.long x :: st) M N S := by
  subst hq
  intro p e R s m args below meth c H locs lsA hF hH
  exact lv_lneg hF.1 hF.2.1 hd  (k p e R s m args below meth c H locs lsA hF hH)
theorem x_i2l {x : Int32} (hd : decode Y.2.1 pc = .ok (.i2l, 1)) (hq : pc + 1 = q)  (k : xX G l Y d Q q ls (.long x.toInt64 :: st) M N S) : xX G l Y d Q pc ls (.int x :: st) M N S := by
  subst hq
  intro p e R s m args below meth c H locs lsA hF hH
  exact lv_i2l hF.1 hF.2.1 hd rfl (k p e R s m args below meth c H locs lsA hF hH)
theorem x_l2i {x : Int64} (hd : decode Y.2.1 pc = .ok (.l2i, 1)) (hq : pc + 1 = q)  (k : xX G l Y d Q q ls (.int x.toInt32 :: st) M N S) : xX G l Y d Q pc ls (.long x :: st) M N S := by
  subst hq
  intro p e R s m args below meth c H locs lsA hF hH
  exact lv_l2i hF.1 hF.2.1 hd rfl (k p e R s m args below meth c H locs lsA hF hH)
theorem x_lshl {x : Int64} {y : Int32} (hd : decode Y.2.1 pc = .ok (.lshl, 1)) (hq : pc + 1 = q)  (k : xX G l Y d Q q ls (.long (x <<< (y.toInt64 &&& 63)) :: st) M N S) : xX G l Y d Q pc ls (.int y :: .long x :: st) M N S := by
  subst hq
  intro p e R s m args below meth c H locs lsA hF hH
  exact lv_lshl hF.1 hF.2.1 hd rfl (k p e R s m args below meth c H locs lsA hF hH)
theorem x_lshr {x : Int64} {y : Int32} (hd : decode Y.2.1 pc = .ok (.lshr, 1)) (hq : pc + 1 = q)  (k : xX G l Y d Q q ls (.long (x >>> (y.toInt64 &&& 63)) :: st) M N S) : xX G l Y d Q pc ls (.int y :: .long x :: st) M N S := by
  subst hq
  intro p e R s m args below meth c H locs lsA hF hH
  exact lv_lshr hF.1 hF.2.1 hd rfl (k p e R s m args below meth c H locs lsA hF hH)
theorem x_lushr {x : Int64} {y : Int32} (hd : decode Y.2.1 pc = .ok (.lushr, 1)) (hq : pc + 1 = q)  (k : xX G l Y d Q q ls (.long ((x.toUInt64 >>> (y.toInt64.toUInt64 &&& Int64.toUInt64 63)).toInt64) :: st) M N S) : xX G l Y d Q pc ls (.int y :: .long x :: st) M N S := by
  subst hq
  intro p e R s m args below meth c H locs lsA hF hH
  exact lv_lushr hF.1 hF.2.1 hd rfl (k p e R s m args below meth c H locs lsA hF hH)
theorem x_lcmp {x y : Int64} (hd : decode Y.2.1 pc = .ok (.lcmp, 1)) (hq : pc + 1 = q)  (k : xX G l Y d Q q ls (.int (lg_cmp x y) :: st) M N S) : xX G l Y d Q pc ls (.long y :: .long x :: st) M N S := by
  subst hq
  intro p e R s m args below meth c H locs lsA hF hH
  exact W.lcmp hF.1 hF.2.1 hd  (k p e R s m args below meth c H locs lsA hF hH)
theorem x_iconst {n : Int} (v : Int32) (hd : decode Y.2.1 pc = .ok (.iconst n, 1)) (hq : pc + 1 = q) (hv : Int32.ofInt n = v) (k : xX G l Y d Q q ls (.int v :: st) M N S) : xX G l Y d Q pc ls st M N S := by
  subst hq
  intro p e R s m args below meth c H locs lsA hF hH
  exact lv_iconst hF.1 hF.2.1 hd hv (k p e R s m args below meth c H locs lsA hF hH)
theorem x_bipush {n : Int} (v : Int32) (hd : decode Y.2.1 pc = .ok (.bipush n, 2)) (hq : pc + 2 = q) (hv : (Int8.ofInt n).toInt32 = v) (k : xX G l Y d Q q ls (.int v :: st) M N S) : xX G l Y d Q pc ls st M N S := by
  subst hq
  intro p e R s m args below meth c H locs lsA hF hH
  exact lv_bipush hF.1 hF.2.1 hd hv (k p e R s m args below meth c H locs lsA hF hH)
theorem x_sipush {n : Int} (v : Int32) (hd : decode Y.2.1 pc = .ok (.sipush n, 3)) (hq : pc + 3 = q) (hv : (Int16.ofInt n).toInt32 = v) (k : xX G l Y d Q q ls (.int v :: st) M N S) : xX G l Y d Q pc ls st M N S := by
  subst hq
  intro p e R s m args below meth c H locs lsA hF hH
  exact lv_sipush hF.1 hF.2.1 hd hv (k p e R s m args below meth c H locs lsA hF hH)
theorem x_lconst {n : Fin 2} (v : Int64) (hd : decode Y.2.1 pc = .ok (.lconst n, 1)) (hq : pc + 1 = q) (hv : Int64.ofNat (n : Nat) = v) (k : xX G l Y d Q q ls (.long v :: st) M N S) : xX G l Y d Q pc ls st M N S := by
  subst hq
  intro p e R s m args below meth c H locs lsA hF hH
  exact lv_lconst hF.1 hF.2.1 hd hv (k p e R s m args below meth c H locs lsA hF hH)
theorem x_dup {va : Value} (hd : decode Y.2.1 pc = .ok (.dup, 1)) (hq : pc + 1 = q) (h1 : va.category = 1) (k : xX G l Y d Q q ls (va :: va :: st) M N S) : xX G l Y d Q pc ls (va :: st) M N S := by
  subst hq
  intro p e R s m args below meth c H locs lsA hF hH
  exact lv_dup hF.1 hF.2.1 hd h1 (k p e R s m args below meth c H locs lsA hF hH)
theorem x_pop {va : Value} (hd : decode Y.2.1 pc = .ok (.pop, 1)) (hq : pc + 1 = q) (h1 : va.category = 1) (k : xX G l Y d Q q ls st M N S) : xX G l Y d Q pc ls (va :: st) M N S := by
  subst hq
  intro p e R s m args below meth c H locs lsA hF hH
  exact lv_pop hF.1 hF.2.1 hd h1 (k p e R s m args below meth c H locs lsA hF hH)
theorem x_pop2 {va : Value} (hd : decode Y.2.1 pc = .ok (.pop2, 1)) (hq : pc + 1 = q) (h1 : va.category = 2) (k : xX G l Y d Q q ls st M N S) : xX G l Y d Q pc ls (va :: st) M N S := by
  subst hq
  intro p e R s m args below meth c H locs lsA hF hH
  exact lv_pop2_2 hF.1 hF.2.1 hd h1 (k p e R s m args below meth c H locs lsA hF hH)
theorem x_dup_x1 {va vb : Value} (hd : decode Y.2.1 pc = .ok (.dup_x1, 1)) (hq : pc + 1 = q) (h1 : va.category = 1) (h2 : vb.category = 1) (k : xX G l Y d Q q ls (va :: vb :: va :: st) M N S) : xX G l Y d Q pc ls (va :: vb :: st) M N S := by
  subst hq
  intro p e R s m args below meth c H locs lsA hF hH
  exact lv_dup_x1 hF.1 hF.2.1 hd h1 h2 (k p e R s m args below meth c H locs lsA hF hH)
theorem x_dup_x2 {va vb vd : Value} (hd : decode Y.2.1 pc = .ok (.dup_x2, 1)) (hq : pc + 1 = q) (h1 : va.category = 1) (h2 : vb.category = 1) (h3 : vd.category = 1) (k : xX G l Y d Q q ls (va :: vb :: vd :: va :: st) M N S) : xX G l Y d Q pc ls (va :: vb :: vd :: st) M N S := by
  subst hq
  intro p e R s m args below meth c H locs lsA hF hH
  exact lv_dup_x2 hF.1 hF.2.1 hd h1 h2 h3 (k p e R s m args below meth c H locs lsA hF hH)
theorem x_dup2 {va vb : Value} (hd : decode Y.2.1 pc = .ok (.dup2, 1)) (hq : pc + 1 = q) (h1 : va.category = 1) (h2 : vb.category = 1) (k : xX G l Y d Q q ls (va :: vb :: va :: vb :: st) M N S) : xX G l Y d Q pc ls (va :: vb :: st) M N S := by
  subst hq
  intro p e R s m args below meth c H locs lsA hF hH
  exact lv_dup2_11 hF.1 hF.2.1 hd h1 h2 (k p e R s m args below meth c H locs lsA hF hH)
theorem x_dup2l {va : Value} (hd : decode Y.2.1 pc = .ok (.dup2, 1)) (hq : pc + 1 = q) (h1 : va.category = 2) (k : xX G l Y d Q q ls (va :: va :: st) M N S) : xX G l Y d Q pc ls (va :: st) M N S := by
  subst hq
  intro p e R s m args below meth c H locs lsA hF hH
  exact lv_dup2_2 hF.1 hF.2.1 hd h1 (k p e R s m args below meth c H locs lsA hF hH)
theorem x_dup2_x1 {va vb : Value} (hd : decode Y.2.1 pc = .ok (.dup2_x1, 1)) (hq : pc + 1 = q) (h1 : va.category = 2) (h2 : vb.category = 1) (k : xX G l Y d Q q ls (va :: vb :: va :: st) M N S) : xX G l Y d Q pc ls (va :: vb :: st) M N S := by
  subst hq
  intro p e R s m args below meth c H locs lsA hF hH
  exact lv_dup2_x1_2 hF.1 hF.2.1 hd h1 h2 (k p e R s m args below meth c H locs lsA hF hH)
theorem x_dup2_x2 {va vb vd : Value} (hd : decode Y.2.1 pc = .ok (.dup2_x2, 1)) (hq : pc + 1 = q) (h1 : va.category = 2) (h2 : vb.category = 1) (h3 : vd.category = 1) (k : xX G l Y d Q q ls (va :: vb :: vd :: va :: st) M N S) : xX G l Y d Q pc ls (va :: vb :: vd :: st) M N S := by
  subst hq
  intro p e R s m args below meth c H locs lsA hF hH
  exact lv_dup2_x2_2 hF.1 hF.2.1 hd h1 h2 h3 (k p e R s m args below meth c H locs lsA hF hH)
def xget : List (Nat × Value) → Nat → Option Value
  | [], _ => none
  | (j, v) :: r, i => match Nat.beq j i with
    | true => some v
    | false => xget r i
theorem xget_mem : ∀ {ls : List (Nat × Value)} {i : Nat} {v : Value}, xget ls i = some v → (i, v) ∈ ls
  | [], _, _, h => by simp [xget] at h
  | (j, w) :: r, i, v, h => by
    unfold xget at h
    split at h
    · rename_i hb
      cases h
      rw [Nat.eq_of_beq_eq_true hb]
      exact List.mem_cons_self
    · exact List.mem_cons_of_mem _ (xget_mem h)
theorem xget_at {lsA : Array Slot} {n i : Nat} {v : Value} (h : lv_has lsA n ls) (hv : xget ls i = some v) : lsA[i]? = some (.val v) := h.2.2 (i, v) (xget_mem hv)
theorem x_iload {i : Nat} {x : Int32} (hd : decode Y.2.1 pc = .ok (.iload i, 2)) (hq : pc + 2 = q) (hv : xget ls i = some (.int x)) (k : xX G l Y d Q q ls (.int x :: st) M N S) : xX G l Y d Q pc ls st M N S := by
  subst hq
  intro p e R s m args below meth c H locs lsA hF hH
  exact lv_iload hF.1 hF.2.1 hd (xget_at hH.1 hv) (k p e R s m args below meth c H locs lsA hF hH)
theorem x_iload_n {i : Fin 4} {x : Int32} (hd : decode Y.2.1 pc = .ok (.iload_n i, 1)) (hq : pc + 1 = q) (hv : xget ls i = some (.int x)) (k : xX G l Y d Q q ls (.int x :: st) M N S) : xX G l Y d Q pc ls st M N S := by
  subst hq
  intro p e R s m args below meth c H locs lsA hF hH
  exact lv_iload_n hF.1 hF.2.1 hd rfl (xget_at hH.1 hv) (k p e R s m args below meth c H locs lsA hF hH)
theorem x_lload {i : Nat} {x : Int64} (hd : decode Y.2.1 pc = .ok (.lload i, 2)) (hq : pc + 2 = q) (hv : xget ls i = some (.long x)) (k : xX G l Y d Q q ls (.long x :: st) M N S) : xX G l Y d Q pc ls st M N S := by
  subst hq
  intro p e R s m args below meth c H locs lsA hF hH
  exact lv_lload hF.1 hF.2.1 hd (xget_at hH.1 hv) (k p e R s m args below meth c H locs lsA hF hH)
theorem x_lload_n {i : Fin 4} {x : Int64} (hd : decode Y.2.1 pc = .ok (.lload_n i, 1)) (hq : pc + 1 = q) (hv : xget ls i = some (.long x)) (k : xX G l Y d Q q ls (.long x :: st) M N S) : xX G l Y d Q pc ls st M N S := by
  subst hq
  intro p e R s m args below meth c H locs lsA hF hH
  exact lv_lload_n hF.1 hF.2.1 hd rfl (xget_at hH.1 hv) (k p e R s m args below meth c H locs lsA hF hH)
theorem x_aload {i : Nat} {x : Nat} (hd : decode Y.2.1 pc = .ok (.aload i, 2)) (hq : pc + 2 = q) (hv : xget ls i = some (.ref x)) (k : xX G l Y d Q q ls (.ref x :: st) M N S) : xX G l Y d Q pc ls st M N S := by
  subst hq
  intro p e R s m args below meth c H locs lsA hF hH
  exact lv_aload hF.1 hF.2.1 hd (xget_at hH.1 hv) (k p e R s m args below meth c H locs lsA hF hH)
theorem x_aload_n {i : Fin 4} {x : Nat} (hd : decode Y.2.1 pc = .ok (.aload_n i, 1)) (hq : pc + 1 = q) (hv : xget ls i = some (.ref x)) (k : xX G l Y d Q q ls (.ref x :: st) M N S) : xX G l Y d Q pc ls st M N S := by
  subst hq
  intro p e R s m args below meth c H locs lsA hF hH
  exact lv_aload_n hF.1 hF.2.1 hd rfl (xget_at hH.1 hv) (k p e R s m args below meth c H locs lsA hF hH)
theorem lv_pick_has {lsA : Array Slot} {n : Nat} {l l' : List (Nat × Value)} (h : lv_has lsA n l) (ks : List Nat) (hl : lv_pick l ks = l') : lv_has lsA n l' := lv_sub h ks hl
theorem x_ls (ks : List Nat) (hl : lv_pick ls ks = ls') (k : xX G l Y d Q pc ls' st M N S) : xX G l Y d Q pc ls st M N S := by
  intro p e R s m args below meth c H locs lsA hF hH
  exact k p e R s m args below meth c H locs lsA hF ⟨lv_sub hH.1 ks hl, hH.2⟩
theorem x_istore {i : Nat} {x : Int32} (ks : List Nat) (hd : decode Y.2.1 pc = .ok (.istore i, 2)) (hq : pc + 2 = q) (hn : i < Y.2.2.1) (hl : lv_pick ((i, Value.int x) :: ls.filter (fun q => !(q.1 == i) && !(q.1 + 1 == i && q.2.category == 2))) ks = ls') (k : xX G l Y d Q q ls' st M N S) : xX G l Y d Q pc ls (.int x :: st) M N S := by
  subst hq
  intro p e R s m args below meth c H locs lsA hF hH
  exact lv_istore hF.1 hF.2.1 hd hH.1 hn rfl (fun lsB hB => k p e R s m args below meth c H locs lsB hF ⟨lv_sub hB ks hl, hH.2⟩)
theorem x_istore_n {i : Fin 4} {x : Int32} (ks : List Nat) (hd : decode Y.2.1 pc = .ok (.istore_n i, 1)) (hq : pc + 1 = q) (hn : (i : Nat) < Y.2.2.1) (hl : lv_pick (((i : Nat), Value.int x) :: ls.filter (fun q => !(q.1 == (i : Nat)) && !(q.1 + 1 == (i : Nat) && q.2.category == 2))) ks = ls') (k : xX G l Y d Q q ls' st M N S) : xX G l Y d Q pc ls (.int x :: st) M N S := by
  subst hq
  intro p e R s m args below meth c H locs lsA hF hH
  exact lv_istore_n hF.1 hF.2.1 hd rfl hH.1 hn rfl (fun lsB hB => k p e R s m args below meth c H locs lsB hF ⟨lv_sub hB ks hl, hH.2⟩)
theorem x_lstore {i : Nat} {x : Int64} (ks : List Nat) (hd : decode Y.2.1 pc = .ok (.lstore i, 2)) (hq : pc + 2 = q) (hn : i + 1 < Y.2.2.1) (hl : lv_pick ((i, Value.long x) :: ls.filter (fun q => !(q.1 == i) && (!(q.1 == i + 1) && !(q.1 + 1 == i && q.2.category == 2)))) ks = ls') (k : xX G l Y d Q q ls' st M N S) : xX G l Y d Q pc ls (.long x :: st) M N S := by
  subst hq
  intro p e R s m args below meth c H locs lsA hF hH
  exact lv_lstore hF.1 hF.2.1 hd hH.1 hn rfl (fun lsB hB => k p e R s m args below meth c H locs lsB hF ⟨lv_sub hB ks hl, hH.2⟩)
theorem x_lstore_n {i : Fin 4} {x : Int64} (ks : List Nat) (hd : decode Y.2.1 pc = .ok (.lstore_n i, 1)) (hq : pc + 1 = q) (hn : (i : Nat) + 1 < Y.2.2.1) (hl : lv_pick (((i : Nat), Value.long x) :: ls.filter (fun q => !(q.1 == (i : Nat)) && (!(q.1 == (i : Nat) + 1) && !(q.1 + 1 == (i : Nat) && q.2.category == 2)))) ks = ls') (k : xX G l Y d Q q ls' st M N S) : xX G l Y d Q pc ls (.long x :: st) M N S := by
  subst hq
  intro p e R s m args below meth c H locs lsA hF hH
  exact lv_lstore_n hF.1 hF.2.1 hd rfl hH.1 hn rfl (fun lsB hB => k p e R s m args below meth c H locs lsB hF ⟨lv_sub hB ks hl, hH.2⟩)
theorem x_astore {i : Nat} {x : Nat} (ks : List Nat) (hd : decode Y.2.1 pc = .ok (.astore i, 2)) (hq : pc + 2 = q) (hn : i < Y.2.2.1) (hl : lv_pick ((i, Value.ref x) :: ls.filter (fun q => !(q.1 == i) && !(q.1 + 1 == i && q.2.category == 2))) ks = ls') (k : xX G l Y d Q q ls' st M N S) : xX G l Y d Q pc ls (.ref x :: st) M N S := by
  subst hq
  intro p e R s m args below meth c H locs lsA hF hH
  exact lv_astore hF.1 hF.2.1 hd hH.1 hn rfl (fun lsB hB => k p e R s m args below meth c H locs lsB hF ⟨lv_sub hB ks hl, hH.2⟩)
theorem x_astore_n {i : Fin 4} {x : Nat} (ks : List Nat) (hd : decode Y.2.1 pc = .ok (.astore_n i, 1)) (hq : pc + 1 = q) (hn : (i : Nat) < Y.2.2.1) (hl : lv_pick (((i : Nat), Value.ref x) :: ls.filter (fun q => !(q.1 == (i : Nat)) && !(q.1 + 1 == (i : Nat) && q.2.category == 2))) ks = ls') (k : xX G l Y d Q q ls' st M N S) : xX G l Y d Q pc ls (.ref x :: st) M N S := by
  subst hq
  intro p e R s m args below meth c H locs lsA hF hH
  exact lv_astore_n hF.1 hF.2.1 hd rfl hH.1 hn rfl (fun lsB hB => k p e R s m args below meth c H locs lsB hF ⟨lv_sub hB ks hl, hH.2⟩)
theorem xget_idx : ∀ {ls : List (Nat × Value)} {i : Nat} {v : Value}, xget ls i = some v → ∃ k : Nat, ls[k]? = some (i, v) := fun h => by
  obtain ⟨k, hk, e⟩ := List.getElem_of_mem (xget_mem h)
  exact ⟨k, by rw [List.getElem?_eq_getElem hk, e]⟩
theorem x_iinc {i : Nat} {n : Int} {x : Int32} (ks : List Nat) (w : Int32) (hd : decode Y.2.1 pc = .ok (.iinc i n, 3)) (hq : pc + 3 = q) (hv : xget ls i = some (.int x)) (hw : Int32.ofInt n = w) (hn : i < Y.2.2.1) (hl : lv_pick ((i, Value.int (x + w)) :: ls.filter (fun q => !(q.1 == i) && !(q.1 + 1 == i && q.2.category == 2))) ks = ls') (k : xX G l Y d Q q ls' st M N S) : xX G l Y d Q pc ls st M N S := by
  subst hq; subst hw
  intro p e R s m args below meth c H locs lsA hF hH
  obtain ⟨k0, hk0⟩ := xget_idx hv
  exact lv_iinc hF.1 hF.2.1 hd hH.1 hk0 rfl hn rfl (fun lsB hB => k p e R s m args below meth c H locs lsB hF ⟨lv_sub hB ks hl, hH.2⟩)
theorem x_if_eq {x : Int32} {off : Int} (t : Nat) (hd : decode Y.2.1 pc = .ok (.ifCond .eq off, 3)) (ht : (pc : Int) + off = (t : Int)) (hq : pc + 3 = q) (kt : x = 0 → xX G l Y d Q t ls st M N S) (kf : ¬ x = 0 → xX G l Y d Q q ls st M N S) : xX G l Y d Q pc ls (.int x :: st) M N S := by
  subst hq
  intro p e R s m args below meth c H locs lsA hF hH
  exact lv_if_eq hF.1 hF.2.1 hd ht (fun h => kt h p e R s m args below meth c H locs lsA hF hH) (fun h => kf h p e R s m args below meth c H locs lsA hF hH)
theorem x_icmp_eq {x y : Int32} {off : Int} (t : Nat) (hd : decode Y.2.1 pc = .ok (.if_icmp .eq off, 3)) (ht : (pc : Int) + off = (t : Int)) (hq : pc + 3 = q) (kt : x = y → xX G l Y d Q t ls st M N S) (kf : ¬ x = y → xX G l Y d Q q ls st M N S) : xX G l Y d Q pc ls (.int y :: .int x :: st) M N S := by
  subst hq
  intro p e R s m args below meth c H locs lsA hF hH
  exact lv_icmp_eq hF.1 hF.2.1 hd ht (fun h => kt h p e R s m args below meth c H locs lsA hF hH) (fun h => kf h p e R s m args below meth c H locs lsA hF hH)
theorem x_if_ne {x : Int32} {off : Int} (t : Nat) (hd : decode Y.2.1 pc = .ok (.ifCond .ne off, 3)) (ht : (pc : Int) + off = (t : Int)) (hq : pc + 3 = q) (kt : ¬ x = 0 → xX G l Y d Q t ls st M N S) (kf : x = 0 → xX G l Y d Q q ls st M N S) : xX G l Y d Q pc ls (.int x :: st) M N S := by
  subst hq
  intro p e R s m args below meth c H locs lsA hF hH
  exact lv_if_ne hF.1 hF.2.1 hd ht (fun h => kt h p e R s m args below meth c H locs lsA hF hH) (fun h => kf h p e R s m args below meth c H locs lsA hF hH)
theorem x_icmp_ne {x y : Int32} {off : Int} (t : Nat) (hd : decode Y.2.1 pc = .ok (.if_icmp .ne off, 3)) (ht : (pc : Int) + off = (t : Int)) (hq : pc + 3 = q) (kt : ¬ x = y → xX G l Y d Q t ls st M N S) (kf : x = y → xX G l Y d Q q ls st M N S) : xX G l Y d Q pc ls (.int y :: .int x :: st) M N S := by
  subst hq
  intro p e R s m args below meth c H locs lsA hF hH
  exact lv_icmp_ne hF.1 hF.2.1 hd ht (fun h => kt h p e R s m args below meth c H locs lsA hF hH) (fun h => kf h p e R s m args below meth c H locs lsA hF hH)
theorem x_if_lt {x : Int32} {off : Int} (t : Nat) (hd : decode Y.2.1 pc = .ok (.ifCond .lt off, 3)) (ht : (pc : Int) + off = (t : Int)) (hq : pc + 3 = q) (kt : x < 0 → xX G l Y d Q t ls st M N S) (kf : ¬ x < 0 → xX G l Y d Q q ls st M N S) : xX G l Y d Q pc ls (.int x :: st) M N S := by
  subst hq
  intro p e R s m args below meth c H locs lsA hF hH
  exact lv_if_lt hF.1 hF.2.1 hd ht (fun h => kt h p e R s m args below meth c H locs lsA hF hH) (fun h => kf h p e R s m args below meth c H locs lsA hF hH)
theorem x_icmp_lt {x y : Int32} {off : Int} (t : Nat) (hd : decode Y.2.1 pc = .ok (.if_icmp .lt off, 3)) (ht : (pc : Int) + off = (t : Int)) (hq : pc + 3 = q) (kt : x < y → xX G l Y d Q t ls st M N S) (kf : ¬ x < y → xX G l Y d Q q ls st M N S) : xX G l Y d Q pc ls (.int y :: .int x :: st) M N S := by
  subst hq
  intro p e R s m args below meth c H locs lsA hF hH
  exact lv_icmp_lt hF.1 hF.2.1 hd ht (fun h => kt h p e R s m args below meth c H locs lsA hF hH) (fun h => kf h p e R s m args below meth c H locs lsA hF hH)
theorem x_if_ge {x : Int32} {off : Int} (t : Nat) (hd : decode Y.2.1 pc = .ok (.ifCond .ge off, 3)) (ht : (pc : Int) + off = (t : Int)) (hq : pc + 3 = q) (kt : 0 ≤ x → xX G l Y d Q t ls st M N S) (kf : ¬ 0 ≤ x → xX G l Y d Q q ls st M N S) : xX G l Y d Q pc ls (.int x :: st) M N S := by
  subst hq
  intro p e R s m args below meth c H locs lsA hF hH
  exact lv_if_ge hF.1 hF.2.1 hd ht (fun h => kt h p e R s m args below meth c H locs lsA hF hH) (fun h => kf h p e R s m args below meth c H locs lsA hF hH)
theorem x_icmp_ge {x y : Int32} {off : Int} (t : Nat) (hd : decode Y.2.1 pc = .ok (.if_icmp .ge off, 3)) (ht : (pc : Int) + off = (t : Int)) (hq : pc + 3 = q) (kt : y ≤ x → xX G l Y d Q t ls st M N S) (kf : ¬ y ≤ x → xX G l Y d Q q ls st M N S) : xX G l Y d Q pc ls (.int y :: .int x :: st) M N S := by
  subst hq
  intro p e R s m args below meth c H locs lsA hF hH
  exact lv_icmp_ge hF.1 hF.2.1 hd ht (fun h => kt h p e R s m args below meth c H locs lsA hF hH) (fun h => kf h p e R s m args below meth c H locs lsA hF hH)
theorem x_if_gt {x : Int32} {off : Int} (t : Nat) (hd : decode Y.2.1 pc = .ok (.ifCond .gt off, 3)) (ht : (pc : Int) + off = (t : Int)) (hq : pc + 3 = q) (kt : 0 < x → xX G l Y d Q t ls st M N S) (kf : ¬ 0 < x → xX G l Y d Q q ls st M N S) : xX G l Y d Q pc ls (.int x :: st) M N S := by
  subst hq
  intro p e R s m args below meth c H locs lsA hF hH
  exact lv_if_gt hF.1 hF.2.1 hd ht (fun h => kt h p e R s m args below meth c H locs lsA hF hH) (fun h => kf h p e R s m args below meth c H locs lsA hF hH)
theorem x_icmp_gt {x y : Int32} {off : Int} (t : Nat) (hd : decode Y.2.1 pc = .ok (.if_icmp .gt off, 3)) (ht : (pc : Int) + off = (t : Int)) (hq : pc + 3 = q) (kt : y < x → xX G l Y d Q t ls st M N S) (kf : ¬ y < x → xX G l Y d Q q ls st M N S) : xX G l Y d Q pc ls (.int y :: .int x :: st) M N S := by
  subst hq
  intro p e R s m args below meth c H locs lsA hF hH
  exact lv_icmp_gt hF.1 hF.2.1 hd ht (fun h => kt h p e R s m args below meth c H locs lsA hF hH) (fun h => kf h p e R s m args below meth c H locs lsA hF hH)
theorem x_if_le {x : Int32} {off : Int} (t : Nat) (hd : decode Y.2.1 pc = .ok (.ifCond .le off, 3)) (ht : (pc : Int) + off = (t : Int)) (hq : pc + 3 = q) (kt : x ≤ 0 → xX G l Y d Q t ls st M N S) (kf : ¬ x ≤ 0 → xX G l Y d Q q ls st M N S) : xX G l Y d Q pc ls (.int x :: st) M N S := by
  subst hq
  intro p e R s m args below meth c H locs lsA hF hH
  exact lv_if_le hF.1 hF.2.1 hd ht (fun h => kt h p e R s m args below meth c H locs lsA hF hH) (fun h => kf h p e R s m args below meth c H locs lsA hF hH)
theorem x_icmp_le {x y : Int32} {off : Int} (t : Nat) (hd : decode Y.2.1 pc = .ok (.if_icmp .le off, 3)) (ht : (pc : Int) + off = (t : Int)) (hq : pc + 3 = q) (kt : x ≤ y → xX G l Y d Q t ls st M N S) (kf : ¬ x ≤ y → xX G l Y d Q q ls st M N S) : xX G l Y d Q pc ls (.int y :: .int x :: st) M N S := by
  subst hq
  intro p e R s m args below meth c H locs lsA hF hH
  exact lv_icmp_le hF.1 hF.2.1 hd ht (fun h => kt h p e R s m args below meth c H locs lsA hF hH) (fun h => kf h p e R s m args below meth c H locs lsA hF hH)
theorem x_lcmp_eq {x y : Int64} {off : Int} {q1 : Nat} (t : Nat) (hd : decode Y.2.1 pc = .ok (.lcmp, 1)) (hq1 : pc + 1 = q1) (hd1 : decode Y.2.1 q1 = .ok (.ifCond .eq off, 3)) (ht : (q1 : Int) + off = (t : Int)) (hq : q1 + 3 = q) (kt : x = y → xX G l Y d Q t ls st M N S) (kf : ¬ x = y → xX G l Y d Q q ls st M N S) : xX G l Y d Q pc ls (.long y :: .long x :: st) M N S := by
  refine x_lcmp hd hq1 ?_
  exact x_if_eq t hd1 ht hq (fun h => kt ((lg_cmp_eq x y).mp h)) (fun h => kf (fun z => h ((lg_cmp_eq x y).mpr z)))
theorem x_lcmp_ne {x y : Int64} {off : Int} {q1 : Nat} (t : Nat) (hd : decode Y.2.1 pc = .ok (.lcmp, 1)) (hq1 : pc + 1 = q1) (hd1 : decode Y.2.1 q1 = .ok (.ifCond .ne off, 3)) (ht : (q1 : Int) + off = (t : Int)) (hq : q1 + 3 = q) (kt : ¬ x = y → xX G l Y d Q t ls st M N S) (kf : x = y → xX G l Y d Q q ls st M N S) : xX G l Y d Q pc ls (.long y :: .long x :: st) M N S := by
  refine x_lcmp hd hq1 ?_
  exact x_if_ne t hd1 ht hq (fun h => kt (fun z => h ((lg_cmp_eq x y).mpr z))) (fun h => kf ((lg_cmp_eq x y).mp h))
theorem x_lcmp_lt {x y : Int64} {off : Int} {q1 : Nat} (t : Nat) (hd : decode Y.2.1 pc = .ok (.lcmp, 1)) (hq1 : pc + 1 = q1) (hd1 : decode Y.2.1 q1 = .ok (.ifCond .lt off, 3)) (ht : (q1 : Int) + off = (t : Int)) (hq : q1 + 3 = q) (kt : x < y → xX G l Y d Q t ls st M N S) (kf : ¬ x < y → xX G l Y d Q q ls st M N S) : xX G l Y d Q pc ls (.long y :: .long x :: st) M N S := by
  refine x_lcmp hd hq1 ?_
  exact x_if_lt t hd1 ht hq (fun h => kt ((lg_cmp_lt x y).mp h)) (fun h => kf (fun z => h ((lg_cmp_lt x y).mpr z)))
theorem x_lcmp_ge {x y : Int64} {off : Int} {q1 : Nat} (t : Nat) (hd : decode Y.2.1 pc = .ok (.lcmp, 1)) (hq1 : pc + 1 = q1) (hd1 : decode Y.2.1 q1 = .ok (.ifCond .ge off, 3)) (ht : (q1 : Int) + off = (t : Int)) (hq : q1 + 3 = q) (kt : y ≤ x → xX G l Y d Q t ls st M N S) (kf : ¬ y ≤ x → xX G l Y d Q q ls st M N S) : xX G l Y d Q pc ls (.long y :: .long x :: st) M N S := by
  refine x_lcmp hd hq1 ?_
  exact x_if_ge t hd1 ht hq (fun h => kt ((lg_cmp_ge x y).mp h)) (fun h => kf (fun z => h ((lg_cmp_ge x y).mpr z)))
theorem x_lcmp_gt {x y : Int64} {off : Int} {q1 : Nat} (t : Nat) (hd : decode Y.2.1 pc = .ok (.lcmp, 1)) (hq1 : pc + 1 = q1) (hd1 : decode Y.2.1 q1 = .ok (.ifCond .gt off, 3)) (ht : (q1 : Int) + off = (t : Int)) (hq : q1 + 3 = q) (kt : y < x → xX G l Y d Q t ls st M N S) (kf : ¬ y < x → xX G l Y d Q q ls st M N S) : xX G l Y d Q pc ls (.long y :: .long x :: st) M N S := by
  refine x_lcmp hd hq1 ?_
  exact x_if_gt t hd1 ht hq (fun h => kt ((lg_cmp_gt x y).mp h)) (fun h => kf (fun z => h ((lg_cmp_gt x y).mpr z)))
theorem x_lcmp_le {x y : Int64} {off : Int} {q1 : Nat} (t : Nat) (hd : decode Y.2.1 pc = .ok (.lcmp, 1)) (hq1 : pc + 1 = q1) (hd1 : decode Y.2.1 q1 = .ok (.ifCond .le off, 3)) (ht : (q1 : Int) + off = (t : Int)) (hq : q1 + 3 = q) (kt : x ≤ y → xX G l Y d Q t ls st M N S) (kf : ¬ x ≤ y → xX G l Y d Q q ls st M N S) : xX G l Y d Q pc ls (.long y :: .long x :: st) M N S := by
  refine x_lcmp hd hq1 ?_
  exact x_if_le t hd1 ht hq (fun h => kt ((lg_cmp_le x y).mp h)) (fun h => kf (fun z => h ((lg_cmp_le x y).mpr z)))
theorem x_goto {off : Int} (t : Nat) (hd : decode Y.2.1 pc = .ok (.goto off, 3)) (ht : (pc : Int) + off = (t : Int)) (k : xX G l Y d Q t ls st M N S) : xX G l Y d Q pc ls st M N S := by
  intro p e R s m args below meth c H locs lsA hF hH
  exact lv_goto hF.1 hF.2.1 hd ht (k p e R s m args below meth c H locs lsA hF hH)
theorem x_ldc {index : Nat} (v : Int32) (hd : decode Y.2.1 pc = .ok (.ldc index, 2)) (hq : pc + 2 = q) (hw : Cond.constant Y.1.cls index v ∈ xW) (k : xX G l Y d Q q ls (.int v :: st) M N S) : xX G l Y d Q pc ls st M N S := by
  subst hq
  intro p e R s m args below meth c H locs lsA hF hH
  exact lv_ldc hF.1 hF.2.1 hF.2.2.2.2.2.1 (hF.2.2.2.2.2.2.2.1 _ hw) hd (k p e R s m args below meth c H locs lsA hF hH)
theorem x_ldc2 {index : Nat} (v : Int64) (hd : decode Y.2.1 pc = .ok (.ldc2_w index, 3)) (hq : pc + 3 = q) (hw : Cond.constantLong Y.1.cls index v ∈ xW) (k : xX G l Y d Q q ls (.long v :: st) M N S) : xX G l Y d Q pc ls st M N S := by
  subst hq
  intro p e R s m args below meth c H locs lsA hF hH
  exact lv_ldc2 hF.1 hF.2.1 hF.2.2.2.2.2.1 (hF.2.2.2.2.2.2.2.1 _ hw) hd (k p e R s m args below meth c H locs lsA hF hH)
theorem x_tableIn {dflt lo hi : Int} {offs : Array Int} {len : Nat} {x : Int32} (off : Int) (t : Nat) (hd : decode Y.2.1 pc = .ok (.tableswitch dflt lo hi offs, len)) (h1 : ¬ x.toInt < lo) (h2 : ¬ hi < x.toInt) (ho : offs[(x.toInt - lo).toNat]? = some off) (ht : (pc : Int) + off = (t : Int)) (k : xX G l Y d Q t ls st M N S) : xX G l Y d Q pc ls (.int x :: st) M N S := by
  intro p e R s m args below meth c H locs lsA hF hH
  exact lv_tableIn hF.1 hF.2.1 hd h1 h2 ho ht (k p e R s m args below meth c H locs lsA hF hH)
theorem x_tableOut {dflt lo hi : Int} {offs : Array Int} {len : Nat} {x : Int32} (t : Nat) (hd : decode Y.2.1 pc = .ok (.tableswitch dflt lo hi offs, len)) (h : x.toInt < lo ∨ hi < x.toInt) (ht : (pc : Int) + dflt = (t : Int)) (k : xX G l Y d Q t ls st M N S) : xX G l Y d Q pc ls (.int x :: st) M N S := by
  intro p e R s m args below meth c H locs lsA hF hH
  exact lv_tableOut hF.1 hF.2.1 hd h ht (k p e R s m args below meth c H locs lsA hF hH)
theorem x_iret {v : Int32} (hr : Y.2.2.2 = some .int) (hd : decode Y.2.1 pc = .ok (.ireturn, 1)) (hq : Q (some (.int v)) M N S) : xX G l Y d Q pc ls [.int v] M N S := by
  intro p e R s m args below meth c H locs lsA hF hH
  obtain ⟨hx, hb, hret, hlk, -⟩ := hF
  obtain ⟨hl, hP, rfl, rfl, h1, h2, hlo, h3, h4⟩ := hH
  refine W.widen (k := G.2.2.2.2.1 - s.heap.size) (n := G.2.2.2.2.2 - xsl s.heap) (by omega) (by omega) ?_
  exact W.iret hx hb (hret.trans hr) (fun t ht hW => ⟨_, M, rfl, by rw [ht]; exact hP, by rw [ht]; exact ⟨hq, h1, h2, h3, h4⟩⟩) hlo hd (hlocks := hlk)
theorem x_zret {v : Int32} (hr : Y.2.2.2 = some .boolean) (hn : narrow .boolean (.int v) = .int v) (hd : decode Y.2.1 pc = .ok (.ireturn, 1)) (hq : Q (some (.int v)) M N S) : xX G l Y d Q pc ls [.int v] M N S := by
  intro p e R s m args below meth c H locs lsA hF hH
  obtain ⟨hx, hb, hret, hlk, -⟩ := hF
  obtain ⟨hl, hP, rfl, rfl, h1, h2, hlo, h3, h4⟩ := hH
  refine W.widen (k := G.2.2.2.2.1 - s.heap.size) (n := G.2.2.2.2.2 - xsl s.heap) (by omega) (by omega) ?_
  exact W.zret hx hb (hret.trans hr) hn (fun t ht hW => ⟨_, M, rfl, by rw [ht]; exact hP, by rw [ht]; exact ⟨hq, h1, h2, h3, h4⟩⟩) hlo hd (hlocks := hlk)
theorem x_lret {v : Int64} (hr : Y.2.2.2 = some .long) (hd : decode Y.2.1 pc = .ok (.lreturn, 1)) (hq : Q (some (.long v)) M N S) : xX G l Y d Q pc ls [.long v] M N S := by
  intro p e R s m args below meth c H locs lsA hF hH
  obtain ⟨hx, hb, hret, hlk, -⟩ := hF
  obtain ⟨hl, hP, rfl, rfl, h1, h2, hlo, h3, h4⟩ := hH
  refine W.widen (k := G.2.2.2.2.1 - s.heap.size) (n := G.2.2.2.2.2 - xsl s.heap) (by omega) (by omega) ?_
  exact W.lret hx hb (hret.trans hr) (fun t ht hW => ⟨_, M, rfl, by rw [ht]; exact hP, by rw [ht]; exact ⟨hq, h1, h2, h3, h4⟩⟩) hlo hd (hlocks := hlk)
theorem x_aret {v : Nat} {rt : FieldType} (hr : Y.2.2.2 = some rt) (hrt : (∃ n, rt = .object n) ∨ ∃ t, rt = .array t) (hd : decode Y.2.1 pc = .ok (.areturn, 1)) (hq : Q (some (.ref v)) M N S) : xX G l Y d Q pc ls [.ref v] M N S := by
  intro p e R s m args below meth c H locs lsA hF hH
  obtain ⟨hx, hb, hret, hlk, -⟩ := hF
  obtain ⟨hl, hP, rfl, rfl, h1, h2, hlo, h3, h4⟩ := hH
  refine W.widen (k := G.2.2.2.2.1 - s.heap.size) (n := G.2.2.2.2.2 - xsl s.heap) (by omega) (by omega) ?_
  exact W.aret hx hb (hret.trans hr) hrt (Or.inr ⟨v, rfl⟩) (fun t ht hW => ⟨_, M, rfl, by rw [ht]; exact hP, by rw [ht]; exact ⟨hq, h1, h2, h3, h4⟩⟩) hlo hd (hlocks := hlk)
theorem x_vret  (hr : Y.2.2.2 = none) (hd : decode Y.2.1 pc = .ok (.return_, 1)) (hq : Q none M N S) : xX G l Y d Q pc ls [] M N S := by
  intro p e R s m args below meth c H locs lsA hF hH
  obtain ⟨hx, hb, hret, hlk, -⟩ := hF
  obtain ⟨hl, hP, rfl, rfl, h1, h2, hlo, h3, h4⟩ := hH
  refine W.widen (k := G.2.2.2.2.1 - s.heap.size) (n := G.2.2.2.2.2 - xsl s.heap) (by omega) (by omega) ?_
  exact W.vret hx hb (hret.trans hr) (fun t ht hW => ⟨_, M, rfl, by rw [ht]; exact hP, by rw [ht]; exact ⟨hq, h1, h2, h3, h4⟩⟩) hlo hd (hlocks := hlk)
/-- a class of ours by its number -/
def xcl (ci : Nat) (C : String) (T : u_T) (n : Nat) (ty : Nat → FieldType) : Prop := vwCl[ci]? = some (C, T, n) ∧ (∀ w ∈ u_ws C T n, w ∈ xW) ∧ (∀ k, k < n → parseFieldDescriptor (T k).2.2.1 = some (ty k)) ∧ (∀ a, a < n → ∀ b, b < n → a ≠ b → (T a).2.1 ≠ (T b).2.1)
theorem x_get {ci : Nat} {C : String} {T : u_T} {n index : Nat} {ty : Nat → FieldType} {a : Nat} {fs : List Value} {v : Value} (hc : xcl ci C T n ty) (k : Nat) (hw : Cond.fieldLink Y.1.cls index (T k).1 (T k).2.1 (T k).2.2.1 ∈ xW) (hk : k < n) (hd : decode Y.2.1 pc = .ok (.getfield index, 3)) (hq : pc + 3 = q) (hM : M a = some (.inr (ci, fs))) (hv : fs[k]? = some v) (kk : xX G l Y d Q q ls (v :: st) M N S) : xX G l Y d Q pc ls (.ref a :: st) M N S := by
  subst hq
  intro p e R s m args below meth c H locs lsA hF hH
  have hF' := hF
  obtain ⟨hx, hb, -, -, -, hown, -, hts, hK, -⟩ := hF'
  exact va_get (cl := vwCl) (ws := [(a, .inr (ci, fs))]) hx hb hts hc.2.1 hown hK.1 (hH.2.1.one hM) 0 rfl hc.1 k hk (hts _ hw) (fun _ h => h) hv hd (kk p e R s m args below meth c H locs lsA hF hH)
theorem x_getN {ci : Nat} {C host : String} {T : u_T} {n index : Nat} {ty : Nat → FieldType} {a : Nat} {fs : List Value} {v : Value} (hc : xcl ci C T n ty) (k : Nat) (hw : Cond.fieldLinkNest Y.1.cls index (T k).1 (T k).2.1 (T k).2.2.1 host ∈ xN) (hk : k < n) (hd : decode Y.2.1 pc = .ok (.getfield index, 3)) (hq : pc + 3 = q) (hM : M a = some (.inr (ci, fs))) (hv : fs[k]? = some v) (kk : xX G l Y d Q q ls (v :: st) M N S) : xX G l Y d Q pc ls (.ref a :: st) M N S := by
  subst hq
  intro p e R s m args below meth c H locs lsA hF hH
  have hF' := hF
  obtain ⟨hx, hb, -, -, -, hown, -, hts, hK, -⟩ := hF'
  exact va_getN (cl := vwCl) (ws := [(a, .inr (ci, fs))]) hx hb hts hc.2.1 hown hK.1 (hH.2.1.one hM) 0 rfl hc.1 k hk (va_Nw.use rfl (hK.2.1 _ hw)) (fun _ h => h) hv hd (kk p e R s m args below meth c H locs lsA hF hH)
theorem xHd.put {s : State} {H H1 : Heap} {locs : List Loc} {lsA : Array Slot} {a i : Nat} {e0 e : xE} {cell cell1 : Cell} (h : xHd G Y ls M N S s H locs lsA) (h0 : M a = some e0) (he : va_at G.1 vwCl (a, xcv G e) H1) (hz : H1.size = H.size) (ho : ∀ q : Nat, q ≠ a → H1[q]? = H[q]?) (hc : H[a]? = some cell) (hc1 : H1[a]? = some cell1) (hsz : cell1.slots.size = cell.slots.size) : xHd G Y ls (xup M a e) N S s H1 (locs ++ [⟨a, i⟩]) lsA := by
  obtain ⟨hl, hP, h1, h2, h3, h4, hlo, h5, h6⟩ := h
  refine ⟨hl, hP.set h0 he hz ho, hz.trans h1, (xsl_set hc hc1 hsz ho).trans h2, h3, h4, fun q hq => ?_, h5, h6⟩
  rcases List.mem_append.mp hq with h | h
  · exact hlo q h
  · rw [List.mem_singleton.mp h]
    exact (hP.1 a e0 h0).2
theorem x_put {ci : Nat} {C : String} {T : u_T} {n index : Nat} {ty0 : Nat → FieldType} {a : Nat} {fs : List Value} {v : Value} {ty : FieldType} (hc : xcl ci C T n ty0) (k : Nat) (hw : Cond.fieldLink Y.1.cls index (T k).1 (T k).2.1 (T k).2.2.1 ∈ xW) (hk : k < n) (hfin : (T k).2.2.2 = false) (hd : decode Y.2.1 pc = .ok (.putfield index, 3)) (hq : pc + 3 = q) (hty : parseFieldDescriptor (T k).2.2.1 = some ty) (hn : narrow ty v = v) (hfit : fits ty v = true) (hl : k < fs.length) (hM : M a = some (.inr (ci, fs))) (kk : xX G l Y d Q q ls st (xup M a (.inr (ci, fs.set k v))) N S) : xX G l Y d Q pc ls (v :: .ref a :: st) M N S := by
  subst hq
  intro p e R s m args below meth c H locs lsA hF hH
  have hF' := hF
  obtain ⟨hx, hb, -, -, -, hown, hnm, hts, hK, -⟩ := hF'
  have hap := va_apart (own := Y.1.cls) hts hc.2.1 ty0 hc.2.2.1 hc.2.2.2 hK.1 hc.1
  obtain ⟨r, h1, cell, q1, q2, q3, q4⟩ := (hH.2.1.1 a _ hM).1
  have hr : r = (C, T, n) := Option.some.inj (h1.symm.trans hc.1)
  subst hr
  obtain ⟨hS, hfc, kC, hkC, hkind⟩ := hK.1.1 ci _ hc.1
  obtain ⟨cf, kf, fi, f, hi, hsl⟩ := hS k hk
  have hlay := hts _ (hc.2.1 _ (u_in_lay hk))
  unfold u_lay at hlay
  rw [if_neg (by rw [hfin]; decide)] at hlay
  have hst := (u_facts hfc hkC (u_lays hts hc.2.1 hk) hi).1
  have h6 := u_store hfc hkC hkind hlay hi hty hn hfit
  refine W.putK hx hb (f := f) ⟨hown, hts _ hw, ⟨_, _, _, hi⟩, hst⟩ (by rw [q2]; exact h6) q1 q3 (by rw [hsl]; exact k2_hasslot (q4 k hk)) rfl rfl hd fun H' e1 e2 e3 => ?_
  rw [hsl] at e1 ⊢
  exact kk p e R s m args below meth c H' _ lsA hF (hH.put (e := .inr (ci, fs.set k v)) hM ⟨_, hc.1, t_OB.to (V := updV (vp_V fs) k v) ⟨_, e1, q2, q3, t_set q4 hap hk v⟩ (fun j _ => vp_updV_set hl v j)⟩ e2 e3 q1 e1 (xcell_size _ _ _))
theorem x_putN {ci : Nat} {C host : String} {T : u_T} {n index : Nat} {ty0 : Nat → FieldType} {a : Nat} {fs : List Value} {v : Value} {ty : FieldType} (hc : xcl ci C T n ty0) (k : Nat) (hw : Cond.fieldLinkNest Y.1.cls index (T k).1 (T k).2.1 (T k).2.2.1 host ∈ xN) (hk : k < n) (hfin : (T k).2.2.2 = false) (hd : decode Y.2.1 pc = .ok (.putfield index, 3)) (hq : pc + 3 = q) (hty : parseFieldDescriptor (T k).2.2.1 = some ty) (hn : narrow ty v = v) (hfit : fits ty v = true) (hl : k < fs.length) (hM : M a = some (.inr (ci, fs))) (kk : xX G l Y d Q q ls st (xup M a (.inr (ci, fs.set k v))) N S) : xX G l Y d Q pc ls (v :: .ref a :: st) M N S := by
  subst hq
  intro p e R s m args below meth c H locs lsA hF hH
  have hF' := hF
  obtain ⟨hx, hb, -, -, -, hown, hnm, hts, hK, -⟩ := hF'
  have hap := va_apart (own := Y.1.cls) hts hc.2.1 ty0 hc.2.2.1 hc.2.2.2 hK.1 hc.1
  obtain ⟨r, h1, cell, q1, q2, q3, q4⟩ := (hH.2.1.1 a _ hM).1
  have hr : r = (C, T, n) := Option.some.inj (h1.symm.trans hc.1)
  subst hr
  obtain ⟨hS, hfc, kC, hkC, hkind⟩ := hK.1.1 ci _ hc.1
  obtain ⟨cf, kf, fi, f, hi, hsl⟩ := hS k hk
  have hlay := hts _ (hc.2.1 _ (u_in_lay hk))
  unfold u_lay at hlay
  rw [if_neg (by rw [hfin]; decide)] at hlay
  have hst := (u_facts hfc hkC (u_lays hts hc.2.1 hk) hi).1
  have h6 := u_store hfc hkC hkind hlay hi hty hn hfit
  refine va_WputK hx hb (f := f) hown (va_Nw.use rfl (hK.2.1 _ hw)) hi hst (by rw [q2]; exact h6) q1 q3 (by rw [hsl]; exact k2_hasslot (q4 k hk)) rfl rfl hd fun H' e1 e2 e3 => ?_
  rw [hsl] at e1 ⊢
  exact kk p e R s m args below meth c H' _ lsA hF (hH.put (e := .inr (ci, fs.set k v)) hM ⟨_, hc.1, t_OB.to (V := updV (vp_V fs) k v) ⟨_, e1, q2, q3, t_set q4 hap hk v⟩ (fun j _ => vp_updV_set hl v j)⟩ e2 e3 q1 e1 (xcell_size _ _ _))
theorem x_putF {ci : Nat} {C : String} {T : u_T} {n index : Nat} {ty0 : Nat → FieldType} {a : Nat} {fs : List Value} {v : Value} {ty : FieldType} (hc : xcl ci C T n ty0) (k : Nat) (hw : Cond.fieldLink Y.1.cls index (T k).1 (T k).2.1 (T k).2.2.1 ∈ xW) (hk : k < n) (hfin : (T k).2.2.2 = true) (hini : Y.1.name = "<init>") (hdecl : (T k).1 = Y.1.cls) (hd : decode Y.2.1 pc = .ok (.putfield index, 3)) (hq : pc + 3 = q) (hty : parseFieldDescriptor (T k).2.2.1 = some ty) (hn : narrow ty v = v) (hfit : fits ty v = true) (hl : k < fs.length) (hM : M a = some (.inr (ci, fs))) (kk : xX G l Y d Q q ls st (xup M a (.inr (ci, fs.set k v))) N S) : xX G l Y d Q pc ls (v :: .ref a :: st) M N S := by
  subst hq
  intro p e R s m args below meth c H locs lsA hF hH
  have hF' := hF
  obtain ⟨hx, hb, -, -, -, hown, hnm, hts, hK, -⟩ := hF'
  have hap := va_apart (own := Y.1.cls) hts hc.2.1 ty0 hc.2.2.1 hc.2.2.2 hK.1 hc.1
  obtain ⟨r, h1, cell, q1, q2, q3, q4⟩ := (hH.2.1.1 a _ hM).1
  have hr : r = (C, T, n) := Option.some.inj (h1.symm.trans hc.1)
  subst hr
  obtain ⟨hS, hfc, kC, hkC, hkind⟩ := hK.1.1 ci _ hc.1
  obtain ⟨cf, kf, fi, f, hi, hsl⟩ := hS k hk
  have hlay := hts _ (hc.2.1 _ (u_in_lay hk))
  unfold u_lay at hlay
  rw [if_pos hfin] at hlay
  have hst := (u_facts hfc hkC (u_lays hts hc.2.1 hk) hi).1
  have hcf : m.cls = cf := by
    obtain ⟨_, _, c', _, _, _, -, -, hf', -, -, -, hown2, -⟩ := Cond.laysFinal_spec hlay
    have e1 : c' = cf := by have := hi.symm.trans hf'; simp at this; exact this.1.symm
    rw [hdecl] at hown2
    rw [← e1]; exact Option.some.inj (hown.symm.trans hown2)
  have h6 := u_fits hfc hkC hkind (Or.inr hlay) hi hty hn hfit
  refine W.putFinK hx hb hown (hts _ hw) hi hst hcf (hnm.trans hini) (by rw [q2]; exact h6) q1 q3 (by rw [hsl]; exact k2_hasslot (q4 k hk)) rfl rfl hd fun H' e1 e2 e3 => ?_
  rw [hsl] at e1 ⊢
  exact kk p e R s m args below meth c H' _ lsA hF (hH.put (e := .inr (ci, fs.set k v)) hM ⟨_, hc.1, t_OB.to (V := updV (vp_V fs) k v) ⟨_, e1, q2, q3, t_set q4 hap hk v⟩ (fun j _ => vp_updV_set hl v j)⟩ e2 e3 q1 e1 (xcell_size _ _ _))
theorem x_iald {a n : Nat} {f : Nat → Int32} {i : Int32} (hd : decode Y.2.1 pc = .ok (.iaload, 1)) (hq : pc + 1 = q) (hM : M a = some (.inl (.int, n, .inl f))) (hin : vp_in i n) (k : xX G l Y d Q q ls (.int (f i.toNatClampNeg) :: st) M N S) : xX G l Y d Q pc ls (.int i :: .ref a :: st) M N S := by
  subst hq
  intro p e R s m args below meth c H locs lsA hF hH
  have hF' := hF
  obtain ⟨hx, hb, -, -, -, hown, -, hts, hK, -⟩ := hF'
  exact va_iald (cl := vwCl) (ws := [(a, .inl (G.2.1 .int, n, .inl f))]) hx hb hK.1 (hH.2.1.one hM) 0 0 rfl rfl hin hd (k p e R s m args below meth c H locs lsA hF hH)
theorem x_zald {a n : Nat} {f : Nat → Int32} {i : Int32} (hd : decode Y.2.1 pc = .ok (.baload, 1)) (hq : pc + 1 = q) (hM : M a = some (.inl (.boolean, n, .inl f))) (hin : vp_in i n) (k : xX G l Y d Q q ls (.int (f i.toNatClampNeg) :: st) M N S) : xX G l Y d Q pc ls (.int i :: .ref a :: st) M N S := by
  subst hq
  intro p e R s m args below meth c H locs lsA hF hH
  have hF' := hF
  obtain ⟨hx, hb, -, -, -, hown, -, hts, hK, -⟩ := hF'
  exact va_zald (cl := vwCl) (ws := [(a, .inl (G.2.1 .boolean, n, .inl f))]) hx hb hK.1 (hH.2.1.one hM) 0 2 rfl rfl hin hd (k p e R s m args below meth c H locs lsA hF hH)
theorem x_lald {a n : Nat} {f : Nat → Int64} {i : Int32} (hd : decode Y.2.1 pc = .ok (.laload, 1)) (hq : pc + 1 = q) (hM : M a = some (.inl (.long, n, .inr (.inl f)))) (hin : vp_in i n) (k : xX G l Y d Q q ls (.long (f i.toNatClampNeg) :: st) M N S) : xX G l Y d Q pc ls (.int i :: .ref a :: st) M N S := by
  subst hq
  intro p e R s m args below meth c H locs lsA hF hH
  have hF' := hF
  obtain ⟨hx, hb, -, -, -, hown, -, hts, hK, -⟩ := hF'
  exact va_lald (cl := vwCl) (ws := [(a, .inl (G.2.1 .long, n, .inr (.inl f)))]) hx hb hK.1 (hH.2.1.one hM) 0 1 rfl rfl hin hd (k p e R s m args below meth c H locs lsA hF hH)
theorem x_aald {a n : Nat} {f : Nat → Option Nat} {i : Int32} {b : Nat} (hd : decode Y.2.1 pc = .ok (.aaload, 1)) (hq : pc + 1 = q) (hM : M a = some (.inl (.object RX2, n, .inr (.inr (.inr (.inr f)))))) (hin : vp_in i n) (hb0 : f i.toNatClampNeg = some b) (k : xX G l Y d Q q ls (.ref b :: st) M N S) : xX G l Y d Q pc ls (.int i :: .ref a :: st) M N S := by
  subst hq
  intro p e R s m args below meth c H locs lsA hF hH
  have hF' := hF
  obtain ⟨hx, hb, -, -, -, hown, -, hts, hK, -⟩ := hF'
  refine va_aldq (cl := vwCl) (ws := [(a, .inl (G.2.1 (.object RX2), n, .inr (.inr (.inr (.inr f)))))]) hx hb hK.1 (hH.2.1.one hM) 0 3 rfl rfl hin hd ?_
  rw [hb0]
  exact k p e R s m args below meth c H locs lsA hF hH
theorem x_alen {a : Nat} {ty : FieldType} {x : vp_A} (v : Int32) (t0 : Nat) (hd : decode Y.2.1 pc = .ok (.arraylength, 1)) (hq : pc + 1 = q) (hM : M a = some (.inl (ty, x))) (ht : (xtys G)[t0]? = some (G.2.1 ty, ty)) (hv : Int32.ofNat x.1 = v) (k : xX G l Y d Q q ls (.int v :: st) M N S) : xX G l Y d Q pc ls (.ref a :: st) M N S := by
  subst hq
  intro p e R s m args below meth c H locs lsA hF hH
  have hF' := hF
  obtain ⟨hx, hb, -, -, -, hown, -, hts, hK, -⟩ := hF'
  exact va_alen (cl := vwCl) (ws := [(a, .inl (G.2.1 ty, x))]) hx hb hK.1 (hH.2.1.one hM) 0 t0 rfl ht hv hd (k p e R s m args below meth c H locs lsA hF hH)
theorem x_iast {a n : Nat} {f : Nat → Int32} {i : Int32} {x : Int32} (hd : decode Y.2.1 pc = .ok (.iastore, 1)) (hq : pc + 1 = q) (hM : M a = some (.inl (.int, n, .inl f))) (hin : vp_in i n) (k : xX G l Y d Q q ls st (xup M a (.inl (.int, n, .inl (upd f i.toNatClampNeg x)))) N S) : xX G l Y d Q pc ls (.int x :: .int i :: .ref a :: st) M N S := by
  subst hq
  intro p e R s m args below meth c H locs lsA hF hH
  have hF' := hF
  obtain ⟨hx, hb, -, -, -, hown, -, hts, hK, -⟩ := hF'
  have hcell : H[a]? = some (vp_cell (G.2.1 .int) (n, .inl f)) := (hH.2.1.1 a _ hM).1
  refine W.iast hx hb hcell ((hK.1.2 0 _ rfl).1 n (fun j => .int (f j))) (fun q => by cases q) (by show ¬ (i < 0 ∨ (arrV _ _ _).slots.size ≤ _); rw [arrV_size]; exact hin) rfl rfl hd fun H1 e1 e2 e3 => ?_
  refine k p e R s m args below meth c H1 _ lsA hF (hH.put (e := .inl (.int, n, .inl (upd f i.toNatClampNeg x))) hM ?_ e2 e3 hcell e1 (xcell_size _ _ _))
  show H1[a]? = some (vp_cell _ _)
  rw [e1, vp_cell_i, vp_cell_i, arrV_store]
  congr 2
  funext q
  by_cases hq : q = i.toNatClampNeg
  · subst hq
    simp [updV, upd]
    try rfl
  · simp [updV, upd, hq]
theorem x_zast {a n : Nat} {f : Nat → Int32} {i : Int32} {x : Int32} (hd : decode Y.2.1 pc = .ok (.bastore, 1)) (hq : pc + 1 = q) (hM : M a = some (.inl (.boolean, n, .inl f))) (hin : vp_in i n) (k : xX G l Y d Q q ls st (xup M a (.inl (.boolean, n, .inl (upd f i.toNatClampNeg (vp_nar .boolean x))))) N S) : xX G l Y d Q pc ls (.int x :: .int i :: .ref a :: st) M N S := by
  subst hq
  intro p e R s m args below meth c H locs lsA hF hH
  have hF' := hF
  obtain ⟨hx, hb, -, -, -, hown, -, hts, hK, -⟩ := hF'
  have hcell : H[a]? = some (vp_cell (G.2.1 .boolean) (n, .inl f)) := (hH.2.1.1 a _ hM).1
  refine W.zast hx hb hcell ((hK.1.2 2 _ rfl).1 n (fun j => .int (f j))) (fun q => by cases q) (by show ¬ (i < 0 ∨ (arrV _ _ _).slots.size ≤ _); rw [arrV_size]; exact hin) rfl rfl hd fun H1 e1 e2 e3 => ?_
  refine k p e R s m args below meth c H1 _ lsA hF (hH.put (e := .inl (.boolean, n, .inl (upd f i.toNatClampNeg (vp_nar .boolean x)))) hM ?_ e2 e3 hcell e1 (xcell_size _ _ _))
  show H1[a]? = some (vp_cell _ _)
  rw [e1, vp_cell_i, vp_cell_i, arrV_store]
  congr 2
  funext q
  by_cases hq : q = i.toNatClampNeg
  · subst hq
    simp [updV, upd, vp_nar]
    try rfl
  · simp [updV, upd, vp_nar, hq]
theorem x_last {a n : Nat} {f : Nat → Int64} {i : Int32} {x : Int64} (hd : decode Y.2.1 pc = .ok (.lastore, 1)) (hq : pc + 1 = q) (hM : M a = some (.inl (.long, n, .inr (.inl f)))) (hin : vp_in i n) (k : xX G l Y d Q q ls st (xup M a (.inl (.long, n, .inr (.inl (vp_updL f i.toNatClampNeg x))))) N S) : xX G l Y d Q pc ls (.long x :: .int i :: .ref a :: st) M N S := by
  subst hq
  intro p e R s m args below meth c H locs lsA hF hH
  have hF' := hF
  obtain ⟨hx, hb, -, -, -, hown, -, hts, hK, -⟩ := hF'
  have hcell : H[a]? = some (vp_cell (G.2.1 .long) (n, .inr (.inl f))) := (hH.2.1.1 a _ hM).1
  refine W.last hx hb hcell ((hK.1.2 1 _ rfl).1 n (fun j => .long (f j))) (fun q => by cases q) (by show ¬ (i < 0 ∨ (arrV _ _ _).slots.size ≤ _); rw [arrV_size]; exact hin) rfl rfl hd fun H1 e1 e2 e3 => ?_
  refine k p e R s m args below meth c H1 _ lsA hF (hH.put (e := .inl (.long, n, .inr (.inl (vp_updL f i.toNatClampNeg x)))) hM ?_ e2 e3 hcell e1 (xcell_size _ _ _))
  show H1[a]? = some (vp_cell _ _)
  rw [e1, vp_cell_l, vp_cell_l, arrV_store]
  congr 2
  funext q
  by_cases hq : q = i.toNatClampNeg
  · subst hq
    simp [updV, vp_updL]
    try rfl
  · simp [updV, vp_updL, hq]
theorem x_aast {a n v : Nat} {vs : List Value} {f : Nat → Option Nat} {i : Int32} (ci : Nat) (hci : ∃ T n, vwCl[ci]? = some (RX2, T, n)) (hd : decode Y.2.1 pc = .ok (.aastore, 1)) (hq : pc + 1 = q) (hM : M a = some (.inl (.object RX2, n, .inr (.inr (.inr (.inr f)))))) (hin : vp_in i n) (hv : M v = some (.inr (ci, vs))) (k : xX G l Y d Q q ls st (xup M a (.inl (.object RX2, n, .inr (.inr (.inr (.inr (va_up f i.toNatClampNeg (some v)))))))) N S) : xX G l Y d Q pc ls (.ref v :: .int i :: .ref a :: st) M N S := by
  subst hq
  intro p e R s m args below meth c H locs lsA hF hH
  have hF' := hF
  obtain ⟨hx, hb, -, -, -, hown, -, hts, hK, -⟩ := hF'
  obtain ⟨T0, n0, hci⟩ := hci
  have hlt : i.toNatClampNeg < n := Nat.not_le.mp fun q => hin (Or.inr q)
  have h0 : ¬ i < 0 := fun q => hin (Or.inl q)
  obtain ⟨r', hr', cellV, g1, g2, g3, -⟩ := (hH.2.1.1 v _ hv).1
  have hcls := (hK.1.1 ci _ hci).2
  obtain ⟨kA, comp, k1, k2, k3, -⟩ := (hK.1.2 3 _ rfl).2
  have hcomp : comp = G.1.1 ci := Option.some.inj (k3.symm.trans hcls.1)
  subst hcomp
  obtain ⟨kC, hkC, -⟩ := hcls.2
  have hcell : H[a]? = some (vp_cell (G.2.1 (.object RX2)) (n, .inr (.inr (.inr (.inr f))))) := (hH.2.1.1 a _ hM).1
  refine W.aast hx hb hcell (fun q h => by cases h) (fun h => by cases h) k1 k2 rfl hkC ⟨h0, by show _ < (arrV _ _ _).slots.size; rw [arrV_size]; exact hlt⟩ g1 (fun q h => by rw [g3] at h; cases h) (by rw [g2]; exact hkC) (by rw [g2]; exact va_assign hcls) rfl rfl hd fun H1 e1 e2 e3 => ?_
  refine k p e R s m args below meth c H1 _ lsA hF (hH.put (e := .inl (.object RX2, n, .inr (.inr (.inr (.inr (va_up f i.toNatClampNeg (some v))))))) hM ?_ e2 e3 hcell e1 (xcell_size _ _ _))
  show H1[a]? = some (vp_cell _ _)
  rw [e1, vp_cell_q, vp_cell_q, arrV_store]
  congr 2
  funext q
  by_cases hq : q = i.toNatClampNeg
  · subst hq
    simp [updV, va_up, va_rf]
  · simp [updV, va_up, hq]
theorem xHd.push {s : State} {H : Heap} {locs : List Loc} {lsA : Array Slot} {e : xE} {cell : Cell} {n : Nat} (h : xHd G Y ls M N S s H locs lsA) (he : va_at G.1 vwCl (N, xcv G e) (H.push cell)) (hn : cell.slots.size = n) (h5' : N + 1 ≤ G.2.2.2.2.1) (h6' : S + n ≤ G.2.2.2.2.2) : xHd G Y ls (xup M N e) (N + 1) (S + n) s (H.push cell) locs lsA := by
  obtain ⟨hl, hP, h1, h2, h3, h4, hlo, h5, h6⟩ := h
  subst h1
  exact ⟨hl, hP.push rfl he (by simp) (fun q hq => by rw [Array.getElem?_push, if_neg (Nat.ne_of_lt hq)]), by simp, by rw [xsl_push, h2, hn], by omega, by omega, hlo, h5', h6'⟩
theorem x_new {ci : Nat} {C : String} {T : u_T} {n index : Nat} {ty : Nat → FieldType} {fs : List Value} (hc : xcl ci C T n ty) (hw1 : Cond.classLink Y.1.cls index C ∈ xW) (hw2 : Cond.instantiable C n ∈ xW) (hw3 : Cond.initialized C ∈ xW) (hfs : ∀ j, j < n → defaultValue (ty j) = vp_V fs j) (hd : decode Y.2.1 pc = .ok (.new index, 3)) (hq : pc + 3 = q) (hN : N + 1 ≤ G.2.2.2.2.1) (hS : S + n ≤ G.2.2.2.2.2) (k : M N = none → xX G l Y d Q q ls (.ref N :: st) (xup M N (.inr (ci, fs))) (N + 1) (S + n)) : xX G l Y d Q pc ls st M N S := by
  subst hq
  intro p e R s m args below meth c H locs lsA hF hH
  have hF' := hF
  obtain ⟨hx, hb, -, -, -, hown, -, hts, hK, hB, rfl⟩ := hF'
  have hKn := hK.1.1 ci _ hc.1
  have hfr : M N = none := hH.2.1.fresh (by rw [hH.2.2.1]; exact Nat.le_refl _)
  have hz := hH.2.2.1
  have hs1 := hH.2.2.2.2.1
  have hs2 := hH.2.2.2.2.2.1
  refine W.newc hx hb hown (hts _ hw1) (hts _ hw2) (hts _ hw3) rfl hd (by show _ ≤ (xR _ _ _ _).cells; unfold xR; dsimp only; omega) (by show _ ≤ (xR _ _ _ _).slots; unfold xR; dsimp only; omega) fun cC kC a1 a2 a3 a4 => ?_
  cases hKn.2.1.symm.trans a1
  have hW := k hfr p e _ s m args below meth c (H.push (blank (G.1.1 ci) kC)) locs lsA hF (hH.push (e := .inr (ci, fs)) ⟨_, hc.1, (u_born ty hts hc.2.1 hKn a2 (by rw [← hz]; simp) hc.2.2.1).to hfs⟩ (by simp [blank, a4]) hN hS)
  rw [show N + 1 - s.heap.size = N - s.heap.size + 1 by omega, show S + n - xsl s.heap = S - xsl s.heap + n by omega] at hW
  subst hz
  exact hW
theorem x_newa {at0 : ArrayType} {ty : FieldType} {i : Int32} {n : Nat} {a0 : vp_A} (t0 : Nat) (hat : newarray.typeOf at0 = ty) (ht : (xtys G)[t0]? = some (G.2.1 ty, ty)) (hnr : ∀ C, ty ≠ .object C) (hw : Cond.arrayClass ty ∈ xW) (ha : ∀ cA : ClassId, vp_cell cA a0 = arrV cA n (fun _ => defaultValue ty)) (hi : ¬ i < 0) (hin : i.toNatClampNeg = n) (hby : n * componentBytes ty ≤ 536870912) (hd : decode Y.2.1 pc = .ok (.newarray at0, 2)) (hq : pc + 2 = q) (hN : N + 1 ≤ G.2.2.2.2.1) (hS : S + n ≤ G.2.2.2.2.2) (k : M N = none → xX G l Y d Q q ls (.ref N :: st) (xup M N (.inl (ty, a0))) (N + 1) (S + n)) : xX G l Y d Q pc ls (.int i :: st) M N S := by
  subst hq; subst hat; subst hin
  intro p e R s m args below meth c H locs lsA hF hH
  have hF' := hF
  obtain ⟨hx, hb, -, -, -, hown, -, hts, hK, hB, rfl⟩ := hF'
  have hfr : M N = none := hH.2.1.fresh (by rw [hH.2.2.1]; exact Nat.le_refl _)
  have hz := hH.2.2.1
  have hs1 := hH.2.2.2.2.1
  have hs2 := hH.2.2.2.2.2.1
  refine W.newa hx hb (hts _ hw) rfl hd rfl hi hby (by show _ ≤ (xR _ _ _ _).cells; unfold xR; dsimp only; omega) (by show _ ≤ (xR _ _ _ _).slots; unfold xR; dsimp only; omega) fun cA kA comp a1 a2 a3 => ?_
  have hcA : cA = G.2.1 (newarray.typeOf at0) := by
    have h2 := (hK.1.2 t0 _ ht).2
    unfold va_RA at h2
    dsimp only at h2
    split at h2
    · rename_i C hC
      exact absurd hC (hnr C)
    · exact Option.some.inj (a1.symm.trans h2)
  subst hcA
  have hW := k hfr p e _ s m args below meth c (H.push { cls := G.2.1 (newarray.typeOf at0), slots := Array.replicate i.toNatClampNeg (defaultValue (newarray.typeOf at0)), vm := .none }) locs lsA hF (hH.push (e := .inl (newarray.typeOf at0, a0)) (by
    show (H.push _)[N]? = some (vp_cell _ _)
    rw [ha, ← hz, ← arrV_new]
    simp) (by simp) hN hS)
  rw [show N + 1 - s.heap.size = N - s.heap.size + 1 by omega, show S + i.toNatClampNeg - xsl s.heap = S - xsl s.heap + i.toNatClampNeg by omega] at hW
  subst hz
  exact hW
theorem x_anew {i : Int32} {n index : Nat} (hw : Cond.classLink Y.1.cls index RX2 ∈ xW) (hi : ¬ i < 0) (hin : i.toNatClampNeg = n) (hby : n * 4 ≤ 536870912) (hd : decode Y.2.1 pc = .ok (.anewarray index, 3)) (hq : pc + 3 = q) (hN : N + 1 ≤ G.2.2.2.2.1) (hS : S + n ≤ G.2.2.2.2.2) (k : M N = none → xX G l Y d Q q ls (.ref N :: st) (xup M N (.inl (.object RX2, n, .inr (.inr (.inr (.inr (fun _ => none))))))) (N + 1) (S + n)) : xX G l Y d Q pc ls (.int i :: st) M N S := by
  subst hq; subst hin
  intro p e R s m args below meth c H locs lsA hF hH
  have hF' := hF
  obtain ⟨hx, hb, -, -, -, hown, -, hts, hK, hB, rfl⟩ := hF'
  have hfr : M N = none := hH.2.1.fresh (by rw [hH.2.2.1]; exact Nat.le_refl _)
  have hz := hH.2.2.1
  have hs1 := hH.2.2.2.2.1
  have hs2 := hH.2.2.2.2.2.1
  refine W.anew hx hb hown (hts _ hw) (va_AO.use hK.2.2.1.1) rfl hd rfl hi hby (by show _ ≤ (xR _ _ _ _).cells; unfold xR; dsimp only; omega) (by show _ ≤ (xR _ _ _ _).slots; unfold xR; dsimp only; omega) fun cA kA comp a1 a2 a3 a4 => ?_
  have hcA : cA = G.2.1 (.object RX2) := by
    obtain ⟨_, _, -, -, -, h2⟩ := (hK.1.2 3 _ rfl).2
    exact Option.some.inj (a1.symm.trans h2)
  subst hcA
  have hW := k hfr p e _ s m args below meth c (H.push { cls := G.2.1 (.object RX2), slots := Array.replicate i.toNatClampNeg .null, vm := .none }) locs lsA hF (hH.push (e := .inl (.object RX2, i.toNatClampNeg, .inr (.inr (.inr (.inr (fun _ => none)))))) (by
    show (H.push _)[N]? = some (vp_cell _ _)
    rw [vp_cell_q, ← hz]
    show (H.push _)[H.size]? = some (arrV _ _ (fun _ => Value.null))
    rw [← arrV_new]
    simp) (by simp) hN hS)
  rw [show N + 1 - s.heap.size = N - s.heap.size + 1 by omega, show S + i.toNatClampNeg - xsl s.heap = S - xsl s.heap + i.toNatClampNeg by omega] at hW
  subst hz
  exact hW
theorem x_objInit {a idx : Nat} (hw1 : Cond.methodLink Y.1.cls idx Lib.objectInit ∈ xW) (hw2 : Cond.instanceMethod Lib.objectInit ∈ xW) (hw3 : Cond.code Lib.objectInit ⟨#[0xb1]⟩ 1 none ∈ xW) (hd : decode Y.2.1 pc = .ok (.invokespecial idx, 3)) (hq : pc + 3 = q) (hr : (st.map fun v => v.category).sum ≤ 8) (k : xX G l Y (d + 1) Q q ls st M N S) : xX G l Y (d + 1) Q pc ls (.ref a :: st) M N S := by
  subst hq
  intro p e R s m args below meth c H locs lsA hF hH
  have hF' := hF
  obtain ⟨hx, hb, -, -, hml, hown, -, hts, hK, hB, rfl⟩ := hF'
  exact W.objInit hx hb hown (hts _ hw1) (hts _ hw2) (hts _ hw3) rfl (by rw [hml]; exact hH.1.1) rfl hd (by unfold xR; dsimp only; omega) (by show 2 * 0 + _ + 12 ≤ _; unfold xR; dsimp only; omega) (k p e _ s m args below meth c H locs lsA hF hH)
theorem x_copyi {a0 a n0 n1 index sp dp n : Nat} {f g : Nat → Int32} {ty : FieldType} {rest : List Value} (t0 : Nat) (ht : (xtys G)[t0]? = some (G.2.1 ty, ty)) (hprim : refKind ty = false) (hw : Cond.methodLink Y.1.cls index arraycopyName ∈ xW) (hw1 : Cond.native arraycopyName ∈ xW) (hw2 : Cond.static arraycopyName ∈ xW) (hw3 : Cond.initialized "java/lang/System" ∈ xW) (hd : decode Y.2.1 pc = .ok (.invokestatic index, 3)) (hq : pc + 3 = q) (hM0 : M a0 = some (.inl (ty, n0, .inl f))) (hM1 : M a = some (.inl (ty, n1, .inl g))) (hsp : sp + n ≤ n0) (hdp : dp + n ≤ n1) (h0 : n0 < 2 ^ 31) (h1 : n1 < 2 ^ 31) (hfit : ∀ i, i < n → fits ty (.int (f (sp + i))) = true) (hr : (rest.map fun v => v.category).sum ≤ 8) (k : xX G l Y (d + 1) Q q ls rest (xup M a (.inl (ty, n1, .inl (va_cpy f g sp dp n)))) N S) : xX G l Y (d + 1) Q pc ls (.int (nI n) :: .int (nI dp) :: .ref a :: .int (nI sp) :: .ref a0 :: rest) M N S := by
  subst hq
  intro p e R s m args below meth c H locs lsA hF hH
  have hF' := hF
  obtain ⟨hx, hb, -, -, hml, hown, -, hts, hK, hB, rfl⟩ := hF'
  intro T hT X
  have hc0 : H[a0]? = some (vp_cell (G.2.1 ty) (n0, .inl f)) := (hH.2.1.1 a0 _ hM0).1
  have hc1 : H[a]? = some (vp_cell (G.2.1 ty) (n1, .inl g)) := (hH.2.1.1 a _ hM1).1
  obtain ⟨-, k0, hk0, cm0, hkk0⟩ := (hK.1.2 t0 _ ht).1 n0 (fun j => .int (f j))
  obtain ⟨-, k1, hk1, cm1, hkk1⟩ := (hK.1.2 t0 _ ht).1 n1 (fun j => .int (g j))
  have neg : ∀ z : Nat, z < 2 ^ 31 → ¬ nI z < 0 := fun z hz h => by
    have := Int32.lt_iff_toInt_lt.mp h
    rw [show (nI z).toInt = (z : Int) from Int32.toInt_ofNat_of_lt hz] at this
    have h0 : (0 : Int32).toInt = 0 := rfl
    omega
  have sz0 : (vp_cell (G.2.1 ty) (n0, .inl f)).slots.size = n0 := arrV_size ..
  have sz1 : (vp_cell (G.2.1 ty) (n1, .inl g)).slots.size = n1 := arrV_size ..
  have tn : ∀ z : Nat, z < 2 ^ 31 → (nI z).toInt = (z : Int) := fun z hz => Int32.toInt_ofNat_of_lt hz
  obtain ⟨vm', X', step⟩ := X.arraycopy hx hown (hts _ hw) (hts _ hw1) (hts _ hw2) (hts _ hw3) (src := a0) (dst := a) (cs := vp_cell (G.2.1 ty) (n0, .inl f)) (cd := vp_cell (G.2.1 ty) (n1, .inl g)) (srcPos := nI sp) (destPos := nI dp) (n := nI n) (by rw [hT]; exact hc0) (by rw [hT]; exact hc1)
    (fun _ h => by cases h) (fun _ h => by cases h) (fun h => by cases h) (fun h => by cases h) hk0 hk1 hkk0 hkk1 (by simp [hprim]) (neg _ (by omega)) (neg _ (by omega)) (neg _ (by omega))
    (by rw [sz0, tn _ (by omega), tn _ (by omega)]; omega) (by rw [sz1, tn _ (by omega), tn _ (by omega)]; omega)
    (fun vm₁ _ i hi => by
      rw [nI_clamp (by omega)] at hi
      rw [nI_clamp (by omega)]
      have e : (vp_cell (G.2.1 ty) (n0, .inl f)).slots.getD (sp + i) .null = .int (f (sp + i)) := by
        show (arrV (G.2.1 ty) n0 (fun j => .int (f j))).slots.getD _ _ = _
        rw [Array.getD_eq_getD_getElem?, arrV_read _ _ (by omega)]
        rfl
      rw [e]
      exact ⟨hfit i hi, trivial⟩)
    (g := F0 m pc lsA (.int (nI n) :: .int (nI dp) :: .ref a :: .int (nI sp) :: .ref a0 :: rest)) rfl (by rw [hml]; exact hH.1.1) (rest := rest) rfl (by rw [hb]; exact hd) (by unfold xR; dsimp only; omega) (by
      have hz : nativeFrameWords "java/lang/System" "arraycopy" 5 ≤ 20 := by decide
      show 2 * 0 + _ + _ ≤ 40 * (d + 1)
      omega)
  have e1 : copied (vp_cell (G.2.1 ty) (n0, .inl f)) (vp_cell (G.2.1 ty) (n1, .inl g)) (nI sp) (nI dp) (nI n) = vp_cell (G.2.1 ty) (n1, .inl (va_cpy f g sp dp n)) := by
    have := va_copied (fun z => .int z) (G.2.1 ty) (G.2.1 ty) (n0 := n0) (n1 := n1) (dp := dp) f g hsp
    unfold copied
    rw [nI_clamp (by omega), nI_clamp (by omega), nI_clamp (by omega)]
    exact this
  rw [e1] at X' step
  have hl : a < H.size := (Array.getElem?_eq_some_iff.mp hc1).1
  have oq : ∀ q : Nat, q ≠ a → (H.setIfInBounds a (vp_cell (G.2.1 ty) (n1, .inl (va_cpy f g sp dp n))))[q]? = H[q]? := fun q hq => by simp [Array.getElem?_setIfInBounds, Ne.symm hq]
  have hs : (H.setIfInBounds a (vp_cell (G.2.1 ty) (n1, .inl (va_cpy f g sp dp n))))[a]? = some (vp_cell (G.2.1 ty) (n1, .inl (va_cpy f g sp dp n))) := by simp [Array.getElem?_setIfInBounds, hl]
  have hHd : ∀ L : List Loc, (∀ q ∈ L, q.base = a) → xHd G Y ls (xup M a (.inl (ty, n1, .inl (va_cpy f g sp dp n)))) N S s (H.setIfInBounds a (vp_cell (G.2.1 ty) (n1, .inl (va_cpy f g sp dp n)))) (locs ++ L) lsA := by
    intro L hL
    obtain ⟨hl1, hP, z1, z2, z3, z4, hlo, z5, z6⟩ := hH
    refine ⟨hl1, hP.set hM1 hs (by simp) oq, by simpa using z1, (xsl_set hc1 hs (by rw [sz1]; exact arrV_size ..) oq).trans z2, z3, z4, fun q hq => ?_, z5, z6⟩
    rcases List.mem_append.mp hq with h | h
    · exact hlo q h
    · rw [hL q h]; exact (hP.1 a _ hM1).2
  obtain ⟨t, a1, b1⟩ := k p e _ s m args below meth c _ _ lsA hF (hHd _ (fun q hq => by
    obtain ⟨z, -, hz⟩ := List.mem_map.mp hq
    rw [← hz])) _ (by rw [← hT]; rfl) X'
  exact ⟨t, step t a1, b1⟩
theorem x_copyl {a0 a n0 n1 index sp dp n : Nat} {f g : Nat → Int64} {ty : FieldType} {rest : List Value} (t0 : Nat) (ht : (xtys G)[t0]? = some (G.2.1 ty, ty)) (hprim : refKind ty = false) (hw : Cond.methodLink Y.1.cls index arraycopyName ∈ xW) (hw1 : Cond.native arraycopyName ∈ xW) (hw2 : Cond.static arraycopyName ∈ xW) (hw3 : Cond.initialized "java/lang/System" ∈ xW) (hd : decode Y.2.1 pc = .ok (.invokestatic index, 3)) (hq : pc + 3 = q) (hM0 : M a0 = some (.inl (ty, n0, .inr (.inl f)))) (hM1 : M a = some (.inl (ty, n1, .inr (.inl g)))) (hsp : sp + n ≤ n0) (hdp : dp + n ≤ n1) (h0 : n0 < 2 ^ 31) (h1 : n1 < 2 ^ 31) (hfit : ∀ i, i < n → fits ty (.long (f (sp + i))) = true) (hr : (rest.map fun v => v.category).sum ≤ 8) (k : xX G l Y (d + 1) Q q ls rest (xup M a (.inl (ty, n1, .inr (.inl (va_cpy f g sp dp n))))) N S) : xX G l Y (d + 1) Q pc ls (.int (nI n) :: .int (nI dp) :: .ref a :: .int (nI sp) :: .ref a0 :: rest) M N S := by
  subst hq
  intro p e R s m args below meth c H locs lsA hF hH
  have hF' := hF
  obtain ⟨hx, hb, -, -, hml, hown, -, hts, hK, hB, rfl⟩ := hF'
  intro T hT X
  have hc0 : H[a0]? = some (vp_cell (G.2.1 ty) (n0, .inr (.inl f))) := (hH.2.1.1 a0 _ hM0).1
  have hc1 : H[a]? = some (vp_cell (G.2.1 ty) (n1, .inr (.inl g))) := (hH.2.1.1 a _ hM1).1
  obtain ⟨-, k0, hk0, cm0, hkk0⟩ := (hK.1.2 t0 _ ht).1 n0 (fun j => .long (f j))
  obtain ⟨-, k1, hk1, cm1, hkk1⟩ := (hK.1.2 t0 _ ht).1 n1 (fun j => .long (g j))
  have neg : ∀ z : Nat, z < 2 ^ 31 → ¬ nI z < 0 := fun z hz h => by
    have := Int32.lt_iff_toInt_lt.mp h
    rw [show (nI z).toInt = (z : Int) from Int32.toInt_ofNat_of_lt hz] at this
    have h0 : (0 : Int32).toInt = 0 := rfl
    omega
  have sz0 : (vp_cell (G.2.1 ty) (n0, .inr (.inl f))).slots.size = n0 := arrV_size ..
  have sz1 : (vp_cell (G.2.1 ty) (n1, .inr (.inl g))).slots.size = n1 := arrV_size ..
  have tn : ∀ z : Nat, z < 2 ^ 31 → (nI z).toInt = (z : Int) := fun z hz => Int32.toInt_ofNat_of_lt hz
  obtain ⟨vm', X', step⟩ := X.arraycopy hx hown (hts _ hw) (hts _ hw1) (hts _ hw2) (hts _ hw3) (src := a0) (dst := a) (cs := vp_cell (G.2.1 ty) (n0, .inr (.inl f))) (cd := vp_cell (G.2.1 ty) (n1, .inr (.inl g))) (srcPos := nI sp) (destPos := nI dp) (n := nI n) (by rw [hT]; exact hc0) (by rw [hT]; exact hc1)
    (fun _ h => by cases h) (fun _ h => by cases h) (fun h => by cases h) (fun h => by cases h) hk0 hk1 hkk0 hkk1 (by simp [hprim]) (neg _ (by omega)) (neg _ (by omega)) (neg _ (by omega))
    (by rw [sz0, tn _ (by omega), tn _ (by omega)]; omega) (by rw [sz1, tn _ (by omega), tn _ (by omega)]; omega)
    (fun vm₁ _ i hi => by
      rw [nI_clamp (by omega)] at hi
      rw [nI_clamp (by omega)]
      have e : (vp_cell (G.2.1 ty) (n0, .inr (.inl f))).slots.getD (sp + i) .null = .long (f (sp + i)) := by
        show (arrV (G.2.1 ty) n0 (fun j => .long (f j))).slots.getD _ _ = _
        rw [Array.getD_eq_getD_getElem?, arrV_read _ _ (by omega)]
        rfl
      rw [e]
      exact ⟨hfit i hi, trivial⟩)
    (g := F0 m pc lsA (.int (nI n) :: .int (nI dp) :: .ref a :: .int (nI sp) :: .ref a0 :: rest)) rfl (by rw [hml]; exact hH.1.1) (rest := rest) rfl (by rw [hb]; exact hd) (by unfold xR; dsimp only; omega) (by
      have hz : nativeFrameWords "java/lang/System" "arraycopy" 5 ≤ 20 := by decide
      show 2 * 0 + _ + _ ≤ 40 * (d + 1)
      omega)
  have e1 : copied (vp_cell (G.2.1 ty) (n0, .inr (.inl f))) (vp_cell (G.2.1 ty) (n1, .inr (.inl g))) (nI sp) (nI dp) (nI n) = vp_cell (G.2.1 ty) (n1, .inr (.inl (va_cpy f g sp dp n))) := by
    have := va_copied (fun z => .long z) (G.2.1 ty) (G.2.1 ty) (n0 := n0) (n1 := n1) (dp := dp) f g hsp
    unfold copied
    rw [nI_clamp (by omega), nI_clamp (by omega), nI_clamp (by omega)]
    exact this
  rw [e1] at X' step
  have hl : a < H.size := (Array.getElem?_eq_some_iff.mp hc1).1
  have oq : ∀ q : Nat, q ≠ a → (H.setIfInBounds a (vp_cell (G.2.1 ty) (n1, .inr (.inl (va_cpy f g sp dp n)))))[q]? = H[q]? := fun q hq => by simp [Array.getElem?_setIfInBounds, Ne.symm hq]
  have hs : (H.setIfInBounds a (vp_cell (G.2.1 ty) (n1, .inr (.inl (va_cpy f g sp dp n)))))[a]? = some (vp_cell (G.2.1 ty) (n1, .inr (.inl (va_cpy f g sp dp n)))) := by simp [Array.getElem?_setIfInBounds, hl]
  have hHd : ∀ L : List Loc, (∀ q ∈ L, q.base = a) → xHd G Y ls (xup M a (.inl (ty, n1, .inr (.inl (va_cpy f g sp dp n))))) N S s (H.setIfInBounds a (vp_cell (G.2.1 ty) (n1, .inr (.inl (va_cpy f g sp dp n))))) (locs ++ L) lsA := by
    intro L hL
    obtain ⟨hl1, hP, z1, z2, z3, z4, hlo, z5, z6⟩ := hH
    refine ⟨hl1, hP.set hM1 hs (by simp) oq, by simpa using z1, (xsl_set hc1 hs (by rw [sz1]; exact arrV_size ..) oq).trans z2, z3, z4, fun q hq => ?_, z5, z6⟩
    rcases List.mem_append.mp hq with h | h
    · exact hlo q h
    · rw [hL q h]; exact (hP.1 a _ hM1).2
  obtain ⟨t, a1, b1⟩ := k p e _ s m args below meth c _ _ lsA hF (hHd _ (fun q hq => by
    obtain ⟨z, -, hz⟩ := List.mem_map.mp hq
    rw [← hz])) _ (by rw [← hT]; rfl) X'
  exact ⟨t, step t a1, b1⟩
theorem x_fac {index : Nat} (hw : Cond.fieldLink Y.1.cls index "InfluenceRows$Frame" "FACTOR" "[I" ∈ xW) (hd : decode Y.2.1 pc = .ok (.getstatic index, 3)) (hq : pc + 3 = q) (k : ∀ fa, facAt G fa → xX G l Y d Q q ls (.ref fa :: st) M N S) : xX G l Y d Q pc ls st M N S := by
  subst hq
  intro p e R s m args below meth c H locs lsA hF hH
  have hF' := hF
  obtain ⟨hx, hb, -, -, hml, hown, -, hts, hK, hB, rfl⟩ := hF'
  obtain ⟨fa, hfa, ⟨cf, kf, fi, f, a, cell, h1, h2, h3, h4, h5, h6, h7, h8⟩⟩ := hK.2.2.2
  exact W.gets hx hb hown (hts _ hw) h1 h2 h3 h4 (by rw [hH.2.1.2.1 a (by omega)]; exact h5) (fun e => by rw [e] at h6; cases h6) h7 rfl hd (k fa hfa p e _ s m args below meth c H locs lsA hF hH)
theorem rArr_in {j n k : Nat} (hj : j < n) (hn : n < 2 ^ 31) (hk : n ≤ k) : ¬ (nI j < 0 ∨ k ≤ (nI j).toNatClampNeg) := fun h => by
  rcases h with h | h
  · exact nI_pos (by omega) h
  · rw [nI_clamp (by omega)] at h; omega
theorem rArr.cell {nm : String} {a n : Nat} {f : Nat → Int32} {s : State} {H : Heap} (h : rArr G nm a n f) (hc : aCl G nm s) (hP : xP G M H) : ∃ cell : Cell, H[a]? = some cell ∧ s.isArrayOf cell .int ∧ cell.vm ≠ .unknown ∧ (n ≤ cell.slots.size ∧ cell.slots.size.toInt32 = Int32.ofNat n) ∧ ∀ j : Nat, j < n → cell.slots[j]? = some (.int (f j)) := by
  obtain ⟨hlt, cell, h1, h2, h3, h4, h5, h6⟩ := h
  obtain ⟨k, hk, comp, hkind⟩ := hc
  exact ⟨cell, by rw [hP.2.1 a hlt]; exact h1, ⟨h3, k, by rw [h2]; exact hk, comp, hkind⟩, h4, h5, h6⟩
theorem x_facald {fa j : Nat} (hfa : facAt G fa) (hd : decode Y.2.1 pc = .ok (.iaload, 1)) (hq : pc + 1 = q) (hj : j < 16) (k : xX G l Y d Q q ls (.int (facF j) :: st) M N S) : xX G l Y d Q pc ls (.int (nI j) :: .ref fa :: st) M N S := by
  subst hq
  intro p e R s m args below meth c H locs lsA hF hH
  have hF' := hF
  obtain ⟨hx, hb, -, -, -, hown, -, hts, hK, -⟩ := hF'
  obtain ⟨cell, h1, h2, h3, h4, h5⟩ := hfa.cell hK.2.2.1.2.2.1.1 hH.2.1
  refine W.iald (v := .int (facF j)) hx hb h1 h2 h3 (rArr_in hj (by decide) h4.1) (by rw [nI_clamp (by omega)]; exact h5 j hj) rfl rfl hd ?_
  exact k p e R s m args below meth c H locs lsA hF hH
/-- the script, which lies below our first address -/
theorem x_sld {b L j : Nat} {xs : Nat → Int32} (hs : rArr G "SCRIPT" b L xs) (hd : decode Y.2.1 pc = .ok (.iaload, 1)) (hq : pc + 1 = q) (hj : j < L) (hL : L ≤ 3584) (k : xX G l Y d Q q ls (.int (xs j) :: st) M N S) : xX G l Y d Q pc ls (.int (nI j) :: .ref b :: st) M N S := by
  subst hq
  intro p e R s m args below meth c H locs lsA hF hH
  have hF' := hF
  obtain ⟨hx, hb, -, -, -, hown, -, hts, hK, -⟩ := hF'
  obtain ⟨cell, h1, h2, h3, h4, h5⟩ := hs.cell hK.2.2.1.2.2.1.2 hH.2.1
  refine W.iald (v := .int (xs j)) hx hb h1 h2 h3 (rArr_in hj (by omega) h4.1) (by rw [nI_clamp (by omega)]; exact h5 j hj) rfl rfl hd ?_
  exact k p e R s m args below meth c H locs lsA hF hH
theorem x_slen {b L : Nat} {xs : Nat → Int32} (hs : rArr G "SCRIPT" b L xs) (hd : decode Y.2.1 pc = .ok (.arraylength, 1)) (hq : pc + 1 = q) (k : xX G l Y d Q q ls (.int (Int32.ofNat L) :: st) M N S) : xX G l Y d Q pc ls (.ref b :: st) M N S := by
  subst hq
  intro p e R s m args below meth c H locs lsA hF hH
  have hF' := hF
  obtain ⟨hx, hb, -, -, -, hown, -, hts, hK, -⟩ := hF'
  obtain ⟨cell, h1, h2, h3, h4, h5⟩ := hs.cell hK.2.2.1.2.2.1.2 hH.2.1
  exact W.alen (n := Int32.ofNat L) hx hb h1 h2 h4.2 rfl rfl hd (k p e R s m args below meth c H locs lsA hF hH)
theorem xPre_blind {av : List Value} : FrameBlind (va_Pc av (fun U => U.heap.size = N ∧ xsl U.heap = S ∧ xP G M U.heap ∧ xK G U)) := by
  intro a U g mk h
  obtain ⟨h1, h2, h3, h4, h5⟩ := h
  exact ⟨h1, h2, h3, h4, xK.same (u := U) (U := U.calling g mk a) rfl h5⟩
/-- behind a call -/
theorem x_after {p : Program} {e : Env} {R : Room} {s : State} {m : MethodId} {args : Array Value} {below : List Frame} {meth : Method} {c : Code} {H : Heap} {locs : List Loc} {lsA : Array Slot} {mc ms : Nat} {av : Array Value} {rest : List Value} (hF : xF G Y d p R s m args meth c) (hH : xHd G Y ls M N S s H locs lsA)
    (hr : va_Run p l e R s m args below meth c H locs (N - s.heap.size) (S - xsl s.heap) mc ms (F0 m pc lsA st) rest (xQ G (fun r M' N' S' => xX G l Y d Q (pc + 3) ls (r.toList ++ rest) M' N' S') av) (fun q => G.2.2.1 ≤ q)) :
    W p l e R s m args below meth c H locs (N - s.heap.size) (S - xsl s.heap) (MQ below (xQ G Q) args s (G.2.2.2.2.1 - s.heap.size) (G.2.2.2.2.2 - xsl s.heap) (fun q => G.2.2.1 ≤ q)) (F0 m pc lsA st) := by
  intro T hT X
  obtain ⟨v, st₀, t, T', L, h0, X', hL, e1, e2, ⟨r, M', hv, hP', hQ', z1, z2, z3, z4⟩, go⟩ := hr T hT X
  cases hv
  obtain ⟨hl, hP, hN, hS, h3, h4, hlo, h5, h6⟩ := hH
  rw [h0] at z1 z2
  have y1 : s.heap.size ≤ T'.heap.size := by rw [e1]; omega
  have y2 : xsl s.heap ≤ xsl T'.heap := by rw [e1]; omega
  have X2 := x_tight X' (k := T'.heap.size - s.heap.size) (n := xsl T'.heap - xsl s.heap) (by omega) (by omega)
  obtain ⟨t2, a1, b1⟩ := hQ' p e R s m args below meth c T'.heap (locs ++ L) lsA hF ⟨hl, by rw [e1]; exact hP', by rw [e1], by rw [e1], by omega, by omega, fun q hq => by
    rcases List.mem_append.mp hq with h | h
    · exact hlo q h
    · exact hL q h, z3, z4⟩ T' rfl (by rw [← e1]; exact X2)
  exact ⟨t2, go t2 a1, b1⟩
/-- what the tables say of a method of ours: its code, its class, how many parameters -/
def xm (Y : xY) (n : Nat) : Prop := Cond.code Y.1 Y.2.1 Y.2.2.1 Y.2.2.2 ∈ xW ∧ Cond.initialized Y.1.cls ∈ xW ∧ (Y.1.cls ≠ "java/lang/invoke/MethodHandle" ∧ Y.1.cls ≠ "java/lang/invoke/VarHandle" ∧ (parseMethodDescriptor Y.1.desc).map (fun d => d.parameters.length) = some n) ∧ Y.2.2.1 ≤ 21
theorem xm.good {Y : xY} {n : Nat} (h : xm Y n) : GoodIn xW (Cond.code Y.1 Y.2.1 Y.2.2.1 Y.2.2.2 :: xW) := fun w hw => by
  rcases List.mem_cons.mp hw with rfl | hw
  · exact xW_good _ h.1
  · exact xW_good _ hw
theorem xm.cb {Y Y' : xY} {n index : Nat} {s : State} {args : Array Value} (hm : xm Y' n) (hts : ∀ w ∈ xW, w.before args s = true) (hw : Cond.methodLink Y.1.cls index Y'.1 ∈ xW) : CallB (xR G (d + 1) s.heap.size (xsl s.heap)) s args Y.1.cls index Y'.1 Y'.2.1 Y'.2.2.1 Y'.2.2.2 (Cond.code Y'.1 Y'.2.1 Y'.2.2.1 Y'.2.2.2 :: xW) (xR G d N S) (G.2.2.2.2.1 - N) (G.2.2.2.2.2 - S) n :=
  callB_of n hts hm.good rfl rfl rfl (hts _ hm.2.1) (hts _ hw) hm.2.2.1 ⟨Nat.le_refl _, by have := hm.2.2.2; unfold xR; dsimp only; omega⟩
theorem xm.cn {Y Y' : xY} {n index : Nat} {host : String} {s : State} {args : Array Value} (hm : xm Y' n) (hts : ∀ w ∈ xW, w.before args s = true) (hK : xK G s) (hw : Cond.methodLinkNest Y.1.cls index Y'.1 host ∈ xN) : va_CN (xR G (d + 1) s.heap.size (xsl s.heap)) s args Y.1.cls index Y'.1 host Y'.2.1 Y'.2.2.1 Y'.2.2.2 (Cond.code Y'.1 Y'.2.1 Y'.2.2.1 Y'.2.2.2 :: xW) (xR G d N S) (G.2.2.2.2.1 - N) (G.2.2.2.2.2 - S) n :=
  va_cnB n hts hm.good rfl rfl rfl (hK.2.1 _ hw) (hts _ hm.2.1) hm.2.2.1 ⟨Nat.le_refl _, by have := hm.2.2.2; unfold xR; dsimp only; omega⟩
theorem x_callV {Y' : xY} {n index : Nat} {b ci : Nat} {fs : List Value} {As rest : List Value} (hm : xm Y' n) (hw1 : Cond.instanceMethod Y'.1 ∈ xW) (hw2 : Cond.selects Y'.1.cls Y'.1 Y'.1 ∈ xW) (hw : Cond.methodLink Y.1.cls index Y'.1 ∈ xW) (hci : ∃ T n, vwCl[ci]? = some (Y'.1.cls, T, n)) (hM : M b = some (.inr (ci, fs))) (hd : decode Y.2.1 pc = .ok (.invokevirtual index, 3)) (hq : pc + 3 = q) (hst : st = As.reverse ++ .ref b :: rest) (hn : As.length = n) (hr : (rest.map fun v => v.category).sum ≤ 8) (hC : xC G l Y' d (.ref b :: As) M N S (fun r M' N' S' => xX G l Y (d + 1) Q q ls (r.toList ++ rest) M' N' S')) : xX G l Y (d + 1) Q pc ls st M N S := by
  subst hq
  intro p e R s m args below meth c H locs lsA hF hH
  have hF' := hF
  obtain ⟨hx, hb, -, -, hml, hown, -, hts, hK, hB, rfl⟩ := hF'
  have hs1 := hH.2.2.2.2.1
  have hs2 := hH.2.2.2.2.2.1
  have h5 := hH.2.2.2.2.2.2.2.1
  have h6 := hH.2.2.2.2.2.2.2.2
  have hpre : ∀ U : State, U.heap = H → s.WarmedH U.vm → va_Pc (.ref b :: As) (fun U => U.heap.size = N ∧ xsl U.heap = S ∧ xP G M U.heap ∧ xK G U) (.ref b :: As).toArray U := fun U hU hW => ⟨rfl, by rw [hU]; exact hH.2.2.1, by rw [hU]; exact hH.2.2.2.1, by rw [hU]; exact hH.2.1, hK.warm hW⟩
  have hrec : ∃ cell : Cell, H[b]? = some cell ∧ cell.vm.isStatics = false ∧ s.vm.findClass Y'.1.cls = some cell.cls := by
    obtain ⟨T0, n0, hci⟩ := hci
    exact va_recv (cl := vwCl) (ws := [(b, .inr (ci, fs))]) hK.1 (hH.2.1.one hM) hci (q0 := 0) rfl
  exact x_after hF hH (va_runV (As := As) (rest := rest) (nL := Y.2.2.1) (n := n) ⟨hx, hb, hml, hown, hts⟩ (hC h5 h6) ⟨hm.cb (d := d) hts hw, hts _ hw1, hts _ hw2⟩ ⟨xPre_blind, hrec, hpre⟩ rfl hn hH.1.1 hst (by show 2 * 0 + _ ≤ 8; omega) hd ⟨by unfold xR; dsimp only; omega, by unfold xR; dsimp only; omega⟩)
theorem x_callVN {Y' : xY} {n index : Nat} {b ci : Nat} {fs : List Value} {host : String} {As rest : List Value} (hm : xm Y' n) (hw1 : Cond.instanceMethod Y'.1 ∈ xW) (hw2 : Cond.selects Y'.1.cls Y'.1 Y'.1 ∈ xW) (hw : Cond.methodLinkNest Y.1.cls index Y'.1 host ∈ xN) (hci : ∃ T n, vwCl[ci]? = some (Y'.1.cls, T, n)) (hM : M b = some (.inr (ci, fs))) (hd : decode Y.2.1 pc = .ok (.invokevirtual index, 3)) (hq : pc + 3 = q) (hst : st = As.reverse ++ .ref b :: rest) (hn : As.length = n) (hr : (rest.map fun v => v.category).sum ≤ 8) (hC : xC G l Y' d (.ref b :: As) M N S (fun r M' N' S' => xX G l Y (d + 1) Q q ls (r.toList ++ rest) M' N' S')) : xX G l Y (d + 1) Q pc ls st M N S := by
  subst hq
  intro p e R s m args below meth c H locs lsA hF hH
  have hF' := hF
  obtain ⟨hx, hb, -, -, hml, hown, -, hts, hK, hB, rfl⟩ := hF'
  have hs1 := hH.2.2.2.2.1
  have hs2 := hH.2.2.2.2.2.1
  have h5 := hH.2.2.2.2.2.2.2.1
  have h6 := hH.2.2.2.2.2.2.2.2
  have hpre : ∀ U : State, U.heap = H → s.WarmedH U.vm → va_Pc (.ref b :: As) (fun U => U.heap.size = N ∧ xsl U.heap = S ∧ xP G M U.heap ∧ xK G U) (.ref b :: As).toArray U := fun U hU hW => ⟨rfl, by rw [hU]; exact hH.2.2.1, by rw [hU]; exact hH.2.2.2.1, by rw [hU]; exact hH.2.1, hK.warm hW⟩
  have hrec : ∃ cell : Cell, H[b]? = some cell ∧ cell.vm.isStatics = false ∧ s.vm.findClass Y'.1.cls = some cell.cls := by
    obtain ⟨T0, n0, hci⟩ := hci
    exact va_recv (cl := vwCl) (ws := [(b, .inr (ci, fs))]) hK.1 (hH.2.1.one hM) hci (q0 := 0) rfl
  exact x_after hF hH (va_runVN (As := As) (rest := rest) (nL := Y.2.2.1) (n := n) ⟨hx, hb, hml, hown, hts⟩ (hC h5 h6) ⟨hm.cn (d := d) hts hK hw, hts _ hw1, hts _ hw2⟩ ⟨xPre_blind, hrec, hpre⟩ rfl hn hH.1.1 hst (by show 2 * 0 + _ ≤ 8; omega) hd ⟨by unfold xR; dsimp only; omega, by unfold xR; dsimp only; omega⟩)
theorem x_callS {Y' : xY} {n index : Nat}  {As rest : List Value} (hm : xm Y' n) (hw1 : Cond.static Y'.1 ∈ xW) (hw : Cond.methodLink Y.1.cls index Y'.1 ∈ xW) (hd : decode Y.2.1 pc = .ok (.invokestatic index, 3)) (hq : pc + 3 = q) (hst : st = As.reverse ++ rest) (hn : As.length = n) (hr : (rest.map fun v => v.category).sum ≤ 8) (hC : xC G l Y' d As M N S (fun r M' N' S' => xX G l Y (d + 1) Q q ls (r.toList ++ rest) M' N' S')) : xX G l Y (d + 1) Q pc ls st M N S := by
  subst hq
  intro p e R s m args below meth c H locs lsA hF hH
  have hF' := hF
  obtain ⟨hx, hb, -, -, hml, hown, -, hts, hK, hB, rfl⟩ := hF'
  have hs1 := hH.2.2.2.2.1
  have hs2 := hH.2.2.2.2.2.1
  have h5 := hH.2.2.2.2.2.2.2.1
  have h6 := hH.2.2.2.2.2.2.2.2
  have hpre : ∀ U : State, U.heap = H → s.WarmedH U.vm → va_Pc As (fun U => U.heap.size = N ∧ xsl U.heap = S ∧ xP G M U.heap ∧ xK G U) As.toArray U := fun U hU hW => ⟨rfl, by rw [hU]; exact hH.2.2.1, by rw [hU]; exact hH.2.2.2.1, by rw [hU]; exact hH.2.1, hK.warm hW⟩
  exact x_after hF hH (va_runS (As := As) (rest := rest) (nL := Y.2.2.1) (n := n) ⟨hx, hb, hml, hown, hts⟩ (hC h5 h6) ⟨hm.cb (d := d) hts hw, hts _ hw1⟩ ⟨xPre_blind, hpre⟩ rfl hn hH.1.1 hst (by show 2 * 0 + _ ≤ 8; omega) hd ⟨by unfold xR; dsimp only; omega, by unfold xR; dsimp only; omega⟩)
theorem x_callI {Y' : xY} {n index : Nat} {b : Nat} {As rest : List Value} (hm : xm Y' n) (hret : Y'.2.2.2 = none) (hini : Y'.1.name = "<init>") (hw1 : Cond.instanceMethod Y'.1 ∈ xW) (hw : Cond.methodLink Y.1.cls index Y'.1 ∈ xW) (hd : decode Y.2.1 pc = .ok (.invokespecial index, 3)) (hq : pc + 3 = q) (hst : st = As.reverse ++ .ref b :: rest) (hn : As.length = n) (hr : (rest.map fun v => v.category).sum ≤ 8) (hC : xC G l Y' d (.ref b :: As) M N S (fun r M' N' S' => xX G l Y (d + 1) Q q ls (r.toList ++ rest) M' N' S')) : xX G l Y (d + 1) Q pc ls st M N S := by
  subst hq
  intro p e R s m args below meth c H locs lsA hF hH
  have hF' := hF
  obtain ⟨hx, hb, -, -, hml, hown, -, hts, hK, hB, rfl⟩ := hF'
  have hs1 := hH.2.2.2.2.1
  have hs2 := hH.2.2.2.2.2.1
  have h5 := hH.2.2.2.2.2.2.2.1
  have h6 := hH.2.2.2.2.2.2.2.2
  have hpre : ∀ U : State, U.heap = H → s.WarmedH U.vm → va_Pc (.ref b :: As) (fun U => U.heap.size = N ∧ xsl U.heap = S ∧ xP G M U.heap ∧ xK G U) (.ref b :: As).toArray U := fun U hU hW => ⟨rfl, by rw [hU]; exact hH.2.2.1, by rw [hU]; exact hH.2.2.2.1, by rw [hU]; exact hH.2.1, hK.warm hW⟩
  obtain ⟨y1, y2, y3, y4⟩ := Y'
  have hret : y4 = none := hret
  subst hret
  exact x_after hF hH (va_runI (As := As) (rest := rest) (nL := Y.2.2.1) (n := n) ⟨hx, hb, hml, hown, hts⟩ (hC h5 h6) ⟨hm.cb (d := d) hts hw, hini, hts _ hw1⟩ ⟨xPre_blind, hpre⟩ rfl hn hH.1.1 hst (by show 2 * 0 + _ ≤ 8; omega) hd ⟨by unfold xR; dsimp only; omega, by unfold xR; dsimp only; omega⟩)
theorem x_callIN {Y' : xY} {n index : Nat} {b : Nat} {host : String} {As rest : List Value} (hm : xm Y' n) (hret : Y'.2.2.2 = none) (hini : Y'.1.name = "<init>") (hw1 : Cond.instanceMethod Y'.1 ∈ xW) (hw : Cond.methodLinkNest Y.1.cls index Y'.1 host ∈ xN) (hd : decode Y.2.1 pc = .ok (.invokespecial index, 3)) (hq : pc + 3 = q) (hst : st = As.reverse ++ .ref b :: rest) (hn : As.length = n) (hr : (rest.map fun v => v.category).sum ≤ 8) (hC : xC G l Y' d (.ref b :: As) M N S (fun r M' N' S' => xX G l Y (d + 1) Q q ls (r.toList ++ rest) M' N' S')) : xX G l Y (d + 1) Q pc ls st M N S := by
  subst hq
  intro p e R s m args below meth c H locs lsA hF hH
  have hF' := hF
  obtain ⟨hx, hb, -, -, hml, hown, -, hts, hK, hB, rfl⟩ := hF'
  have hs1 := hH.2.2.2.2.1
  have hs2 := hH.2.2.2.2.2.1
  have h5 := hH.2.2.2.2.2.2.2.1
  have h6 := hH.2.2.2.2.2.2.2.2
  have hpre : ∀ U : State, U.heap = H → s.WarmedH U.vm → va_Pc (.ref b :: As) (fun U => U.heap.size = N ∧ xsl U.heap = S ∧ xP G M U.heap ∧ xK G U) (.ref b :: As).toArray U := fun U hU hW => ⟨rfl, by rw [hU]; exact hH.2.2.1, by rw [hU]; exact hH.2.2.2.1, by rw [hU]; exact hH.2.1, hK.warm hW⟩
  obtain ⟨y1, y2, y3, y4⟩ := Y'
  have hret : y4 = none := hret
  subst hret
  exact x_after hF hH (va_runIN (As := As) (rest := rest) (nL := Y.2.2.1) (n := n) ⟨hx, hb, hml, hown, hts⟩ (hC h5 h6) ⟨hm.cn (d := d) hts hK hw, hini, hts _ hw1⟩ ⟨xPre_blind, hpre⟩ rfl hn hH.1.1 hst (by show 2 * 0 + _ ≤ 8; omega) hd ⟨by unfold xR; dsimp only; omega, by unfold xR; dsimp only; omega⟩)
end XR
end XA
