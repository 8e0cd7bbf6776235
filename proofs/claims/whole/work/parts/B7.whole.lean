/-! THE CLAIM OUT OF ONE WALK OF THE LAW'S BODY. Your part is whole_start (and what it stands on); all else here is the same for every law, but numbers. -/
def R_law : String := "InfluenceRowsLaw"
def lw_P (b : Addr) (xs : List Int32) (args : Array Value) (s : State) : Prop := args = #[.ref b] ∧ s.IntsAt b xs ∧ xs.length ≤ 3584 ∧ (Jvm.Cond.and given_1 narrow_1).before args s = true
def lw_Q (_ : Array Value) (s : State) (o : Outcome) (t : State) : Prop := o = .returned (some (.int 1)) ∧ Framed s o t [] 601024 7293034
def lw_Z (below : List Frame) (a : Array Value) (s : State) : State → Prop := fun t => ∃ o, t.status = .running ∧ Ended t below o ∧ lw_Q a s o t
/-- what holds at the law's entry: the machine, the code, the tables' words (any of lw_tbl by 'hts w (by decide +kernel)'), the script of L ints xs at the cell b, what the Statement gives of the start (any of its parts by flat_of_before) -/
def lw_At (p : Program) (s : State) (m : MethodId) (meth : Method) (c : Code) (b L : Nat) (xs : Nat → Int32) : Prop :=
  p.tables.exec = Jvm.exec ∧ c.code = code ∧ meth.sig.returnType = ret ∧ c.maxLocals = 7 ∧ s.vm.findClass R_law = some m.cls ∧ (∀ w ∈ lw_tbl, w.before #[Value.ref b] s = true) ∧ va_X b L xs s s.heap ∧ b < s.heap.size ∧ meth.locks = false ∧ (Jvm.Cond.and given_1 narrow_1).before #[Value.ref b] s = true ∧ meth.name = "law"
theorem hasRoom_le {s : State} {pl : Platform} {R R' : Room} (h : s.hasRoom pl R = true) (hf : R'.frames ≤ R.frames) (hl : R'.locals ≤ R.locals) (hc : R'.cells ≤ R.cells) (hs : R'.slots ≤ R.slots) : s.hasRoom pl R' = true := by
  simp only [State.hasRoom, Bool.and_eq_true, decide_eq_true_eq] at h ⊢
  obtain ⟨⟨⟨⟨h1, h2, h3, h4, h5, h6⟩, h7⟩, h8⟩, h9⟩ := h
  exact ⟨⟨⟨⟨by omega, by omega, by omega, by omega, by omega, h6⟩, by omega⟩, by omega⟩, h9⟩
theorem stand_room {p : Program} {l : Launch} {e : Env} {R R' : Room} {s : State} {m : MethodId} {args : Array Value} {below : List Frame} {meth : Method} {c : Code} {T : State} {locs : List Loc} {k n : Nat} (X : Stand p l e R s m args below meth c T locs k n) (hf : R'.frames ≤ R.frames) (hl : R'.locals ≤ R.locals) (hc : R'.cells ≤ R.cells) (hs : R'.slots ≤ R.slots) : Stand p l e R' s m args below meth c T locs k n :=
  { X with room := hasRoom_le X.room hf hl hc hs }
/-- the classes of arrays by their kind -/
def arC (cI cJ cZ cB cF cS : ClassId) : FieldType → ClassId
  | .int => cI
  | .long => cJ
  | .boolean => cZ
  | .object n => if n = RX2 then cB else if n = "FACTOR" then cF else cS
  | _ => cI
theorem arC_B (cI cJ cZ cB cF cS : ClassId) : arC cI cJ cZ cB cF cS (.object RX2) = cB := by
  show (if RX2 = RX2 then cB else if RX2 = "FACTOR" then cF else cS) = cB
  rw [if_pos rfl]
theorem arC_F (cI cJ cZ cB cF cS : ClassId) : arC cI cJ cZ cB cF cS (.object "FACTOR") = cF := by
  show (if "FACTOR" = RX2 then cB else if "FACTOR" = "FACTOR" then cF else cS) = cF
  rw [if_neg (by decide), if_pos rfl]
theorem arC_S (cI cJ cZ cB cF cS : ClassId) : arC cI cJ cZ cB cF cS (.object "SCRIPT") = cS := by
  show (if "SCRIPT" = RX2 then cB else if "SCRIPT" = "FACTOR" then cF else cS) = cS
  rw [if_neg (by decide), if_neg (by decide)]
theorem xw_tbl {w : Cond} (h : w ∈ xW) : w ∈ lw_tbl := (List.mem_filter.mp h).1
theorem vw_J0 : (∀ w ∈ u_ws RJ0 TJ0 4, w ∈ lw_tbl) ∧ Cond.instantiable RJ0 4 ∈ lw_tbl := by decide +kernel
theorem vw_J4 : (∀ w ∈ u_ws RJ4 TJ4 4, w ∈ lw_tbl) ∧ Cond.instantiable RJ4 4 ∈ lw_tbl := by decide +kernel
theorem vw_J6 : (∀ w ∈ u_ws RJx00060 TJx00060 6, w ∈ lw_tbl) ∧ Cond.instantiable RJx00060 6 ∈ lw_tbl := by decide +kernel
theorem vw_known : ∀ r ∈ vwCl, (∀ w ∈ u_ws r.1 r.2.1 r.2.2, w ∈ lw_tbl) ∧ Cond.instantiable r.1 r.2.2 ∈ lw_tbl :=
  List.forall_mem_cons.mpr ⟨vw_J0, List.forall_mem_cons.mpr ⟨vw_J4, List.forall_mem_cons.mpr ⟨vw_J6, List.forall_mem_cons.mpr ⟨⟨fun w hw => xw_tbl (xclX0.2.1 w hw), xw_tbl in1X0⟩, List.forall_mem_cons.mpr ⟨⟨fun w hw => xw_tbl (xclX1.2.1 w hw), xw_tbl in1X1⟩, List.forall_mem_cons.mpr ⟨⟨fun w hw => xw_tbl (xclX2.2.1 w hw), xw_tbl in1X2⟩, List.forall_mem_cons.mpr ⟨⟨fun w hw => xw_tbl (xclX3.2.1 w hw), xw_tbl in1X3⟩, List.forall_mem_cons.mpr ⟨⟨fun w hw => xw_tbl (xclX4.2.1 w hw), xw_tbl in1X4⟩, List.forall_mem_cons.mpr ⟨⟨fun w hw => xw_tbl (xclX5.2.1 w hw), xw_tbl in1X5⟩, List.forall_mem_cons.mpr ⟨⟨fun w hw => xw_tbl (xclX6.2.1 w hw), xw_tbl in1X6⟩, List.forall_mem_cons.mpr ⟨⟨fun w hw => xw_tbl (xclX7.2.1 w hw), xw_tbl in1X7⟩, List.forall_mem_cons.mpr ⟨⟨fun w hw => xw_tbl (xclX8.2.1 w hw), xw_tbl in1X8⟩, List.forall_mem_cons.mpr ⟨⟨fun w hw => xw_tbl (xclX9.2.1 w hw), xw_tbl in1X9⟩, fun _ h => absurd h List.not_mem_nil⟩⟩⟩⟩⟩⟩⟩⟩⟩⟩⟩⟩⟩
theorem wt_ao : Cond.arrayOver (.object RX2) ∈ lw_tbl := by decide +kernel
theorem wt_s1 : Cond.stringRef "InfluenceRows" 247 "no such beam" ∈ lw_tbl := by decide +kernel
theorem wt_s2 : Cond.stringRef "InfluenceRows" 252 "no such node" ∈ lw_tbl := by decide +kernel
theorem wt_u : Cond.laysStatic Bundle.tN "UNASSIGNED_STACK" Bundle.steD ∈ lw_tbl := by decide +kernel
theorem wt_p : Cond.laysStatic Bundle.tN "SUPPRESSED_SENTINEL" Bundle.listD ∈ lw_tbl := by decide +kernel
theorem wt_t : Cond.initialized Bundle.tN ∈ lw_tbl := by decide +kernel
theorem wt_f : Cond.laysStatic "InfluenceRows$Frame" "FACTOR" "[I" ∈ lw_tbl := by decide +kernel
theorem wt_i : Cond.initialized "InfluenceRows$Frame" ∈ lw_tbl := by decide +kernel
set_option maxHeartbeats 4000000 in
theorem whole_start {p : Program} {e : Env} {s : State} {m : MethodId} {below : List Frame} {meth : Method} {c : Code} (l : Launch) (hlt : l.stackTraces = false) {b L : Nat} {xs : Nat → Int32} (hL : L ≤ 3584) (C0 : lw_At p s m meth c b L xs) : W p l e room_1 s m #[Value.ref b] below meth c s.heap [] 0 0 (lw_Z below #[Value.ref b] s) (entryFrame m ([Value.ref b] : List Value).toArray 7) := by
  obtain ⟨hx, hb, hr, hml, hown, hts, hX, hbl, hlocks, hgv, hnm⟩ := id C0
  have hflat := flat_of_before _ hgv
  have hA : ∀ a : Nat, a < s.heap.size → ¬ (fun q : Nat => s.heap.size ≤ q) a := fun a h => Nat.not_le.mpr h
  obtain ⟨dC, dI, hKc⟩ : ∃ (dC : Nat → ClassId) (dI : Nat → Nat → Nat), ∀ (k : Nat) (q : vw_C), vwCl[k]? = some q → u_Kn s q.1 q.2.1 q.2.2 (dC k) (dI k) := by
    have h0 : ∀ k : Nat, ∃ q : ClassId × (Nat → Nat), ∀ r : vw_C, vwCl[k]? = some r → u_Kn s r.1 r.2.1 r.2.2 q.1 q.2 := by
      intro k
      cases hk : vwCl[k]? with
      | none => exact ⟨(m.cls, fun _ => 0), fun r hr => by cases hr⟩
      | some r =>
        obtain ⟨w1, w2⟩ := vw_known r (List.mem_of_getElem? hk)
        obtain ⟨cC, iS, h9⟩ := u_known (C := r.1) (T := r.2.1) (N := r.2.2) (n := r.2.2) hts w1 (hts _ w2)
        exact ⟨(cC, iS), fun r' hr => by cases hr; exact h9⟩
    obtain ⟨F, hF⟩ := Classical.axiomOfChoice h0
    exact ⟨fun k => (F k).1, fun k => (F k).2, fun k q hq => hF k q hq⟩
  obtain ⟨cI, kI, pI, i1, i2, i3⟩ := Cond.arrayClass_spec (type := .int) (args := #[Value.ref b]) (first := s) (o := none) (s := s) (idx := []) (hts _ (xw_tbl ac_int))
  obtain ⟨cJ, kJ, pJ, j1, j2, j3⟩ := Cond.arrayClass_spec (type := .long) (args := #[Value.ref b]) (first := s) (o := none) (s := s) (idx := []) (hts _ (xw_tbl ac_long))
  obtain ⟨cZ, kZ, pZ, z1, z2, z3⟩ := Cond.arrayClass_spec (type := .boolean) (args := #[Value.ref b]) (first := s) (o := none) (s := s) (idx := []) (hts _ (xw_tbl ac_boolean))
  obtain ⟨pB, cB, kB, b1, -, b3, b4, b5⟩ := Cond.arrayOver_spec (n := RX2) (args := #[Value.ref b]) (first := s) (o := none) (s := s) (idx := []) (hts _ wt_ao)
  have hel : ∀ j : Nat, j < 16 → (Term.elem (.static "InfluenceRows$Frame" "FACTOR" "[I") (.int (Int32.ofNat j))).eval #[Value.ref b] s none [] s = some (.int (facF j)) := by
    intro j hj
    rcases (by omega : j = 0 ∨ j = 1 ∨ j = 2 ∨ j = 3 ∨ j = 4 ∨ j = 5 ∨ j = 6 ∨ j = 7 ∨ j = 8 ∨ j = 9 ∨ j = 10 ∨ j = 11 ∨ j = 12 ∨ j = 13 ∨ j = 14 ∨ j = 15) with rfl | rfl | rfl | rfl | rfl | rfl | rfl | rfl | rfl | rfl | rfl | rfl | rfl | rfl | rfl | rfl
    · rw [show facF 0 = 12 by decide +kernel]; exact va_eqt (z := 12) (hflat (Cond.eq (.elem (.static "InfluenceRows$Frame" "FACTOR" "[I") (.int 0)) (.int (12))) (by decide +kernel))
    · rw [show facF 1 = 6 by decide +kernel]; exact va_eqt (z := 6) (hflat (Cond.eq (.elem (.static "InfluenceRows$Frame" "FACTOR" "[I") (.int 1)) (.int (6))) (by decide +kernel))
    · rw [show facF 2 = -12 by decide +kernel]; exact va_eqt (z := -12) (hflat (Cond.eq (.elem (.static "InfluenceRows$Frame" "FACTOR" "[I") (.int 2)) (.int (-12))) (by decide +kernel))
    · rw [show facF 3 = 6 by decide +kernel]; exact va_eqt (z := 6) (hflat (Cond.eq (.elem (.static "InfluenceRows$Frame" "FACTOR" "[I") (.int 3)) (.int (6))) (by decide +kernel))
    · rw [show facF 4 = 6 by decide +kernel]; exact va_eqt (z := 6) (hflat (Cond.eq (.elem (.static "InfluenceRows$Frame" "FACTOR" "[I") (.int 4)) (.int (6))) (by decide +kernel))
    · rw [show facF 5 = 4 by decide +kernel]; exact va_eqt (z := 4) (hflat (Cond.eq (.elem (.static "InfluenceRows$Frame" "FACTOR" "[I") (.int 5)) (.int (4))) (by decide +kernel))
    · rw [show facF 6 = -6 by decide +kernel]; exact va_eqt (z := -6) (hflat (Cond.eq (.elem (.static "InfluenceRows$Frame" "FACTOR" "[I") (.int 6)) (.int (-6))) (by decide +kernel))
    · rw [show facF 7 = 2 by decide +kernel]; exact va_eqt (z := 2) (hflat (Cond.eq (.elem (.static "InfluenceRows$Frame" "FACTOR" "[I") (.int 7)) (.int (2))) (by decide +kernel))
    · rw [show facF 8 = -12 by decide +kernel]; exact va_eqt (z := -12) (hflat (Cond.eq (.elem (.static "InfluenceRows$Frame" "FACTOR" "[I") (.int 8)) (.int (-12))) (by decide +kernel))
    · rw [show facF 9 = -6 by decide +kernel]; exact va_eqt (z := -6) (hflat (Cond.eq (.elem (.static "InfluenceRows$Frame" "FACTOR" "[I") (.int 9)) (.int (-6))) (by decide +kernel))
    · rw [show facF 10 = 12 by decide +kernel]; exact va_eqt (z := 12) (hflat (Cond.eq (.elem (.static "InfluenceRows$Frame" "FACTOR" "[I") (.int 10)) (.int (12))) (by decide +kernel))
    · rw [show facF 11 = -6 by decide +kernel]; exact va_eqt (z := -6) (hflat (Cond.eq (.elem (.static "InfluenceRows$Frame" "FACTOR" "[I") (.int 11)) (.int (-6))) (by decide +kernel))
    · rw [show facF 12 = 6 by decide +kernel]; exact va_eqt (z := 6) (hflat (Cond.eq (.elem (.static "InfluenceRows$Frame" "FACTOR" "[I") (.int 12)) (.int (6))) (by decide +kernel))
    · rw [show facF 13 = 2 by decide +kernel]; exact va_eqt (z := 2) (hflat (Cond.eq (.elem (.static "InfluenceRows$Frame" "FACTOR" "[I") (.int 13)) (.int (2))) (by decide +kernel))
    · rw [show facF 14 = -6 by decide +kernel]; exact va_eqt (z := -6) (hflat (Cond.eq (.elem (.static "InfluenceRows$Frame" "FACTOR" "[I") (.int 14)) (.int (-6))) (by decide +kernel))
    · rw [show facF 15 = 4 by decide +kernel]; exact va_eqt (z := 4) (hflat (Cond.eq (.elem (.static "InfluenceRows$Frame" "FACTOR" "[I") (.int 15)) (.int (4))) (by decide +kernel))
  obtain ⟨fa, hfe, ⟨cf, f1, f2, f3, f4, f5, f6, -⟩⟩ := va_Tof (args := #[Value.ref b]) (s := s) (tm := .static "InfluenceRows$Frame" "FACTOR" "[I") (ty := .int) (N := 16) (f := fun j => .int (facF j)) (A := fun q : Nat => s.heap.size ≤ q) (by decide) (hflat (Cond.arrayOf (.static "InfluenceRows$Frame" "FACTOR" "[I") .int) (by decide +kernel)) (va_eqt (z := 16) (hflat (Cond.eq (.length (.static "InfluenceRows$Frame" "FACTOR" "[I")) (.int 16)) (by decide +kernel))) hel hA
  obtain ⟨scr, s1, s2, s3, s4, s5⟩ := hX
  obtain ⟨sa, _, _, _, t1, -⟩ := Cond.exactly_spec (args := #[Value.ref b]) (first := s) (o := none) (s := s) (idx := []) (t := .string "InfluenceRows" 247) (cls := "java/lang/String") (hflat (Cond.exactly (.string "InfluenceRows" 247) "java/lang/String") (by decide +kernel))
  obtain ⟨sb, _, _, _, t2, -⟩ := Cond.exactly_spec (args := #[Value.ref b]) (first := s) (o := none) (s := s) (idx := []) (t := .string "InfluenceRows" 252) (cls := "java/lang/String") (hflat (Cond.exactly (.string "InfluenceRows" 252) "java/lang/String") (by decide +kernel))
  have hU : vx_Zq Bundle.tN "UNASSIGNED_STACK" Bundle.steD (fun q : Nat => s.heap.size ≤ q) s s.heap := vx_Zqof (hts _ wt_u) (hts _ wt_t) (hflat (Cond.isRef (.static Bundle.tN "UNASSIGNED_STACK" Bundle.steD)) (by decide +kernel)) hA
  have hSp : vx_Zq Bundle.tN "SUPPRESSED_SENTINEL" Bundle.listD (fun q : Nat => s.heap.size ≤ q) s s.heap := vx_Zqof (hts _ wt_p) (hts _ wt_t) (hflat (Cond.isRef (.static Bundle.tN "SUPPRESSED_SENTINEL" Bundle.listD)) (by decide +kernel)) hA
  have hZf : va_Z "InfluenceRows$Frame" "FACTOR" "[I" (.ref fa) (fun q : Nat => s.heap.size ≤ q) s s.heap := va_Zof (hts _ wt_f) (hts _ wt_i) hfe hA
  obtain ⟨G, hG⟩ : ∃ G : xG, G = ((dC, dI), arC cI cJ cZ cB cf.cls scr.cls, s.heap.size, s.heap, s.heap.size + 601024, xsl s.heap + 7293034) := ⟨_, rfl⟩
  have g1 : G.1 = (dC, dI) := by rw [hG]
  have g2 : G.2.1 = arC cI cJ cZ cB cf.cls scr.cls := by rw [hG]
  have g3 : G.2.2.1 = s.heap.size := by rw [hG]
  have g4 : G.2.2.2.1 = s.heap := by rw [hG]
  have g5 : G.2.2.2.2.1 = s.heap.size + 601024 := by rw [hG]
  have g6 : G.2.2.2.2.2 = xsl s.heap + 7293034 := by rw [hG]
  have hKa : va_K G.1 vwCl (xtys G) s := by
    rw [g1]
    refine ⟨hKc, ?_⟩
    have q0 : ∀ q ∈ xtys G, ArrOfT s q.1 q.2 ∧ va_RA s q.1 q.2 := by
      unfold xtys
      rw [g2, arC_B]
      exact List.forall_mem_cons.mpr ⟨⟨fun n z => ⟨fun k h => (by cases h), kI, i2, pI, i3⟩, i1⟩, List.forall_mem_cons.mpr ⟨⟨fun n z => ⟨fun k h => (by cases h), kJ, j2, pJ, j3⟩, j1⟩, List.forall_mem_cons.mpr ⟨⟨fun n z => ⟨fun k h => (by cases h), kZ, z2, pZ, z3⟩, z1⟩, List.forall_mem_cons.mpr ⟨⟨fun n z => ⟨fun k h => (by cases h), kB, b3, pB, b4⟩, kB, pB, b3, b4, b1, b5⟩, fun _ h => absurd h List.not_mem_nil⟩⟩⟩⟩
    exact fun k q hq => q0 q (List.mem_of_getElem? hq)
  have hV : xV G s := by
    refine ⟨⟨⟨sa, vk_R.of (A := #[Value.ref b]) (hts _ wt_s1) t1⟩, ⟨sb, vk_R.of (A := #[Value.ref b]) (hts _ wt_s2) t2⟩⟩, ⟨?_, ?_⟩, ?_, ?_⟩
    · obtain ⟨-, k, hk, comp, hkind⟩ := f2
      exact ⟨k, by rw [g2, arC_F]; exact hk, comp, hkind⟩
    · obtain ⟨-, k, hk, comp, hkind⟩ := s2
      exact ⟨k, by rw [g2, arC_S]; exact hk, comp, hkind⟩
    · rw [g3, g4]; exact hU
    · rw [g3, g4]; exact hSp
  have hZz : xZ G s := by
    refine ⟨fa, ⟨by rw [g3]; exact (Array.getElem?_eq_some_iff.mp f1).1, cf, by rw [g4]; exact f1, by rw [g2, arC_F], f2.1, f3, ⟨f4, f5⟩, f6⟩, ?_⟩
    rw [g3, g4]; exact hZf
  have hK : xK G s := ⟨hKa, fun w hw => va_Nw.of (xN_on hw) (hts w (List.mem_filter.mp hw).1), ⟨va_AO.of (A := #[Value.ref b]) (hts _ wt_ao), hV⟩, hZz⟩
  have hscr : rArr G "SCRIPT" b L (fun j => iI ((xs j).toInt)) := by
    refine ⟨by rw [g3]; exact hbl, scr, by rw [g4]; exact s1, by rw [g2, arC_S], s2.1, s3, ⟨Nat.le_of_eq s4.symm, congrArg Nat.toInt32 s4⟩, fun j hj => ?_⟩
    rw [s5 j hj]
    show _ = some (Value.int (Int32.ofInt (xs j).toInt))
    rw [Int32.ofInt_toInt]
  have hlaw := law_all (G := G) (l := l) (b := b) (L := L) (N0 := s.heap.size) (S0 := xsl s.heap) (ys := fun j => (xs j).toInt) hlt hscr hL (fun j => ⟨by have := Int32.le_toInt (xs j); show -2147483648 ≤ (xs j).toInt; omega, by have := Int32.toInt_lt (xs j); show (xs j).toInt < 2147483648; omega⟩) (by rw [g5]; omega) (by rw [g6]; omega)
  have hP : xP G (fun _ => none) s.heap := ⟨fun a e9 h => (by cases h), fun q hq => (by rw [g4]), Nat.le_of_eq g3⟩
  have hl := lv_entry ([.ref b]) (n := 7) (Nat.le_of_ble_eq_true rfl)
  rw [lg_entry_eq]
  generalize (lg_sl ([.ref b]) ++ List.replicate (7 - (lg_sl ([.ref b])).length) Slot.unset).toArray = ls at hl ⊢
  have hl : lv_has ls 7 [(0, .ref b)] := hl
  have hW := hlaw p e (xR G 21 s.heap.size (xsl s.heap)) s m #[Value.ref b] below meth c s.heap [] ls ⟨hx, hb, hr, hlocks, hml, hown, hnm, fun w hw => hts w (xw_tbl hw), hK, by rw [g3]; exact Nat.le_refl _, rfl⟩ ⟨hl, hP, rfl, rfl, Nat.le_refl _, Nat.le_refl _, fun q h => absurd h List.not_mem_nil, by rw [g5]; omega, by rw [g6]; omega⟩
  rw [Nat.sub_self, Nat.sub_self] at hW
  intro T hT X
  have X2 : Stand p l e (xR G 21 s.heap.size (xsl s.heap)) s m #[Value.ref b] below meth c T [] 0 0 := stand_room X (Nat.le_refl 21) (by show 40 * 21 ≤ 902; omega) (by show G.2.2.2.2.1 - s.heap.size ≤ 601024; rw [g5]; omega) (by show G.2.2.2.2.2 - xsl s.heap ≤ 7293034; rw [g6]; omega)
  obtain ⟨t, a1, o, w1, w2, ⟨r, M', rfl, -, hq, -⟩, Lc, ⟨hv, hwm, hsm⟩, hfree⟩ := hW T hT X2
  have hq : r = some (.int 1) := hq
  subst hq
  refine ⟨t, a1, _, w1, w2, rfl, hv, hwm, ?_⟩
  rw [g5, g6] at hsm
  exact hsm.weaken (fun y hy hlt9 => absurd (hfree y hy) (by rw [g3]; exact Nat.not_le.mpr hlt9)) (by omega) (by omega)
set_option maxHeartbeats 4000000 in
theorem lw_walk (l : Launch) (hlt : l.stackTraces = false) (b : Addr) (xs : List Int32) : MetFree l x (headSpec (Jvm.Cond.code x code maxLocals ret :: tables_1) room_1) (lw_P b xs) (fun _ _ _ _ _ => True) lw_Q := by
  refine MetFree.of_bodyS (code := code) (maxLocals := maxLocals) (ret := ret) (by decide) ?_ ?_
  · intro args s m h hn
    obtain ⟨meth, c, h1, h2, h3, h4, h5, h6, -, -⟩ := Cond.code_spec hn (atoms_spec (ws := Jvm.Cond.code x code maxLocals ret :: tables_1) h _ List.mem_cons_self)
    exact ⟨meth, c, h1, h2, h3, h4, h5, h6⟩
  · intro p e s m args below meth c s₁ B hml0 hP _
    obtain ⟨rfl, hx, hbd, hgv⟩ := hP
    obtain ⟨scr, harrAt, hlist, hof, hsmall⟩ := hx
    obtain ⟨hcb, hkn, -, -⟩ := State.arrayAt?_spec harrAt
    have hown : s.vm.findClass R_law = some m.cls := findClass_of_methodNamed B.named
    have hts0 : ∀ c ∈ (Jvm.Cond.code x code maxLocals ret :: tables_1), c.before #[Value.ref b] s = true := atoms_spec (ws := Jvm.Cond.code x code maxLocals ret :: tables_1) B.pre
    have hts : ∀ w ∈ lw_tbl, w.before #[Value.ref b] s = true := k2_hts_sels lw_privs (fun w hw => hts0 w (List.mem_cons_of_mem _ hw)) lw_privs_ok
    have hml : c.maxLocals = 7 := B.maxLocals_eq (hts0 _ List.mem_cons_self)
    have X₀ : Stand p l e room_1 s m #[Value.ref b] below meth c s₁ [] 0 0 := Stand.of_body B
    have hh0 : s₁.heap = s.heap := by rw [B.state]; rfl
    have hsz : scr.slots.size = xs.length := by rw [← Array.length_toList, hlist, List.length_map]
    have hval : ∀ j : Nat, j < xs.length → scr.slots[j]? = some (.int (xs.getD j 0)) := fun j hj => by
      rw [← Array.getElem?_toList, hlist]
      simp [hj]
    have hbl : b < s.heap.size := (Array.getElem?_eq_some_iff.mp hcb).1
    have hX : va_X b xs.length (fun j => xs.getD j 0) s s.heap := ⟨scr, hcb, hof, hkn, hsz, hval⟩
    have K : W p l e room_1 s m #[Value.ref b] below meth c s₁.heap [] 0 0 (lw_Z below #[Value.ref b] s) (entryFrame m ([Value.ref b] : List Value).toArray 7) := by
      rw [hh0]
      exact whole_start l hlt hbd ⟨B.exec, B.bytes, B.returns, hml, hown, hts, hX, hbl, B.notSynchronized, hgv, (name_of_methodNamed B.named B.method).1⟩
    obtain ⟨t, a1, o, b1, b2, b3⟩ := K s₁ rfl X₀
    exact ⟨t, o, a1, b1, b2, b3⟩
theorem lw_pre_spec {args : Array Value} {s : State} (h : (Jvm.Cond.and given_1 narrow_1).before args s = true) (hr : rest_1_c.before args s = true) : ∃ (b : Addr) (xs : List Int32), lw_P b xs args s := by
  have hs := flat_of_before _ h
  have hq := flat_of_before _ hr
  have hc : (Cond.count 1).before args s = true := hs _ (by decide +kernel)
  have harr : (Cond.arrayOf (.arg 0) .int).before args s = true := hs _ (by decide +kernel)
  have hle : (Cond.le (.length (.arg 0)) (.int 3584)).before args s = true := hs _ (by decide +kernel)
  have hlen : (Cond.isInt (.length (.arg 0))).before args s = true := hq _ (by decide +kernel)
  have hall : (Cond.all (.arg 0) (.isInt (.elem (.arg 0) (.index 0)))).before args s = true := hq _ (by decide +kernel)
  obtain ⟨b, xs, hb, hx⟩ := State.ints_of_pre rfl harr hlen hall
  have hsm : xs.length < 2 ^ 31 := hx.choose_spec.2.2.2
  have hev : (Term.length (.arg 0)).eval args s none [] s = some (.int xs.length.toInt32) := hx.length_eval hb
  have hv := Cond.le_ints hev (show (Term.int 3584).eval args s none [] s = some (.int 3584) from rfl)
  have hd : xs.length.toInt32 ≤ 3584 := by
    simpa [Cond.before, Cond.holds, hv] using hle
  have hN : xs.length ≤ 3584 := (Int32.ofNat_le_ofNat hsm (by decide)).mp (show Int32.ofNat xs.length ≤ Int32.ofNat 3584 from hd)
  exact ⟨b, xs, Cond.one_arg hc (show args[0]? = some (.ref b) from hb), hx, hN, h⟩
theorem lw_comes (l : Launch) (hlt : l.stackTraces = false) : Comes l x (Jvm.Cond.code x code maxLocals ret :: tables_1) room_1 (fun tb e args s => Calls_1 tb e args s ∧ rest_1 tb e args s ∧ Pre_1 tb e args s)
    (fun _ _ args s o t => lw_Q args s o t) := by
  intro p e ha hc hk s m args below hf hfit hheap happ hpre
  obtain ⟨b, xs, hP⟩ := lw_pre_spec hpre.2.2 hpre.2.1
  obtain ⟨k, o, h1, h2, h3, hQ⟩ := lw_walk l hlt b xs p e ha hc hk s m args below hf ((Spec.applies_iff_loose hf).mp happ).1 hP trivial
  exact ⟨k, o, h1, h2, h3, hQ⟩
theorem lw_frame {s t : State} {o : Outcome} {args : Array Value} (h : Framed s o t [] 601024 7293034) :
    Framed s o t (fieldLocs frame_1_writes args s ++ arrayLocs frame_1_arrays args s ++ staticLocs frame_1_statics s) 601024 7293034 := h
theorem lw_limb (L : Cond) (hL : ∀ (args : Array Value) (s t : State), L.after args s (.returned (some (.int 1))) t = true) :
    ArmFor flags0 classFile x code maxLocals ret World_1 tables_1 room_1 Calls_1 rest_1 Pre_1
      (fun tb e a s o t => postC L tb e a s o t ∧ Framed s o t (fieldLocs frame_1_writes a s ++ arrayLocs frame_1_arrays a s ++ staticLocs frame_1_statics s) 601024 7293034) := by
  intro l hfl _ _ p e ha hc hk s m args below hf hfit hheap happ hpre
  obtain ⟨k, o, h1, h2, h3, rfl, hF⟩ := lw_comes l (by unfold Launch.stackTraces; rw [hfl]; decide +kernel) p e ha hc hk s m args below hf hfit hheap happ hpre
  exact ⟨k, _, h1, h2, h3, hL args s _, lw_frame hF⟩
theorem i_vc : Claimed_1_1 ∧ Claimed_1_2 := ⟨lw_limb limb_1_1 (fun args s t => by simp [limb_1_1, Cond.after, Cond.holds, Cond.value]), lw_limb limb_1_2 (fun args s t => Cond.after_iff.mpr (by
  first | (rw [show limb_1_2 = Cond.eq .result (.int 1) from rfl, Cond.eq_ints (x := 1) (y := 1) rfl rfl]; simp; done) | (simp [limb_1_2, Cond.value, Term.eval]; done)))⟩
