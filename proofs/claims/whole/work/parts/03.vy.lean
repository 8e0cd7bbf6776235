section VYA
variable {p : Program} {l : Launch} {e : Env} {R : Room} {s : State} {m : MethodId} {args : Array Value} {below : List Frame} {meth : Method} {c : Code} {H : Heap} {locs : List Loc} {cells slots : Nat} {Q : State → Prop}
variable {pc : Nat} {ls : Array Slot} {rest : List Value}
/-- the search in a table of one row that takes what is thrown: where it ends, and how the tables look then -/
theorem vy_found {U : State} {f : JFrame} {q : Addr} {x : ExceptionTableEntry} {cT : ClassId} {ce : Cell} (hm : U.vm.method? f.method = some meth) (hc : meth.code = some c) (htab : c.exceptionTable.toList = [x]) (hx : covers x f.pc = true) (h0 : x.catchType ≠ 0)
    (hlk : U.vm.ClassLinks e.platform f.method.cls x.catchType cT) (hcell : U.heap[q]? = some ce) (hv : ce.vm = .none) (hk1 : ∃ k, U.vm.classes[ce.cls]? = some k) (hk2 : ∃ k, U.vm.classes[cT]? = some k) (hfit : U.vm.assignable ce.cls cT = true)
    (P : Handler → Pre) (E : CtlPost) (d : Bool) (acts : List Action) : wp (findHandler f q) P E e d acts U ↔ P (.found x.handlerPc) d acts (U.setVm (U.vm.noted f.method.cls x.catchType (.cls cT))) := by
  rw [W.findHandler_eq hm hc, htab]
  simp only [covers] at hx
  have hlink := (resolveClass_links e.toSetting hlk).op (op := VmOp.resolveClass f.method.cls x.catchType) rfl
  have hal : U.vm.Alike (U.vm.noted f.method.cls x.catchType (.cls cT)) := (Vm.Alike.refl U.vm).noted _ _ _
  obtain ⟨k1, hk1⟩ := hk1
  obtain ⟨k2, hk2⟩ := hk2
  obtain ⟨j1, hj1, -⟩ := hal.2.2 _ _ hk1
  obtain ⟨j2, hj2, -⟩ := hal.2.2 _ _ hk2
  have hfit2 : (U.vm.noted f.method.cls x.catchType (.cls cT)).assignable ce.cls cT = true := by rw [hal.assignable]; exact hfit
  have hno : ∀ k, ce.vm ≠ .statics k := fun k h => by rw [hv] at h; cases h
  simp [findHandler.go, hx, h0, hlink.1, hlink.2, hcell, hno, hj1, hj2, hfit2, VmOp.dirties, VmOp.acts]
/-- what was thrown over this frame is caught by the one row of the method's table -/
theorem vy_catch {own name E : String} {ce : Cell} {q : Addr} (hown : s.vm.findClass own = some m.cls) (x : ExceptionTableEntry) (htab : c.exceptionTable.toList = [x]) (hx : covers x pc = true) (h0 : x.catchType ≠ 0)
    (hlink : (Cond.classLink own x.catchType name).before args s = true) (hcast : (Cond.castable E name).before args s = true) (hcell : H[q]? = some ce) (hv : ce.vm = .none) (hcl : s.vm.findClass E = some ce.cls)
    (kk : W p l e R s m args below meth c H locs cells slots Q (F0 m x.handlerPc ls [.ref q])) : vx_W p l e R s m args below meth c H locs cells slots Q (F0 m pc ls rest) q := by
  intro T hT X
  have hpl : e.platform.magicAccessors = ({} : Platform).magicAccessors := by rw [X.admits.platform]
  obtain ⟨c3, cT, hc3, hc4, hasg⟩ := Cond.castable_spec hcast
  cases Option.some.inj (hc3.symm.trans hcl)
  obtain ⟨c5, hc5, hcl5⟩ := Cond.classLink_spec hown hlink e.platform hpl
  cases Option.some.inj (hc4.symm.trans hc5)
  obtain ⟨dk, _, _, kt, hd, _, _, _, _, hkt, _, hopen⟩ := hcl5.here
  have hal := X.warmed.alike
  obtain ⟨kE, hkE, -⟩ := Vm.findClass_spec hcl
  obtain ⟨kE', hkE', -⟩ := hal.2.2 _ _ hkE
  obtain ⟨kt', hkt', -⟩ := hal.2.2 _ _ hkt
  have hW' : s.WarmedH (T.vm.noted m.cls x.catchType (.cls cT)) := X.warmed.noted hd hopen (State.rightAt_cls hcl5)
  obtain ⟨t, a1, b1⟩ := kk (T.setVm (T.vm.noted m.cls x.catchType (.cls cT))) hT (X.noted hW')
  refine ⟨t, ?_, b1⟩
  have hA : At T (F0 m pc ls rest).method c below := X.here
  obtain ⟨hgo, hw⟩ := hA.throwing q
  refine Steps.head hgo hw ?_
  rw [stepThread_throwing (frames_entered hA.top _)]
  have hfind := vy_found (e := e) (U := (T.setTop (F0 m pc ls rest)).pushFrame (.throwing q)) (f := F0 m pc ls rest) (q := q) (x := x) (cT := cT) (ce := ce) (meth := meth) (c := c) X.method' X.code htab hx h0 (X.warmed.classLinks hcl5) (by show T.heap[q]? = some ce; rw [hT]; exact hcell) hv ⟨kE', hkE'⟩ ⟨kt', hkt'⟩ (by show T.vm.assignable ce.cls cT = true; rw [hal.assignable]; exact hasg)
  have hgone : (stepThrowing e ((T.setTop (F0 m pc ls rest)).pushFrame (.throwing q)) q (.java (F0 m pc ls rest) :: T.frames.tail)).1 = (((T.setTop (F0 m pc ls rest)).pushFrame (.throwing q)).setVm (T.vm.noted m.cls x.catchType (.cls cT))).setFrames (.java { F0 m pc ls rest with pc := x.handlerPc, stack := [.ref q] } :: T.frames.tail) := by
    simp only [stepThrowing, searchFrame, vmDo]
    generalize hr : Sem.go _ e false [] ((T.setTop (F0 m pc ls rest)).pushFrame (.throwing q)) = res
    obtain ⟨as, rfl, ha⟩ := Sem.eq_ok_of hr (a := Handler.found x.handlerPc) (s' := ((T.setTop (F0 m pc ls rest)).pushFrame (.throwing q)).setVm (T.vm.noted m.cls x.catchType (.cls cT))) (acts' := []) (by
      simp [hfind]
      rfl)
    rfl
  rw [hgone]
  obtain ⟨g0, hfr⟩ := X.frames_eq
  have hfr' : (T.setVm (T.vm.noted m.cls x.catchType (.cls cT))).frames = .java g0 :: below := hfr
  rw [State.setTop_of_frames _ hfr'] at a1
  have e1 : (((T.setTop (F0 m pc ls rest)).pushFrame (.throwing q)).setVm (T.vm.noted m.cls x.catchType (.cls cT))).setFrames (.java { F0 m pc ls rest with pc := x.handlerPc, stack := [.ref q] } :: T.frames.tail) = (T.setVm (T.vm.noted m.cls x.catchType (.cls cT))).setFrames (.java (F0 m x.handlerPc ls [.ref q]) :: below) := by
    rw [hfr, List.tail_cons, State.pushFrame, State.setTop_of_frames _ hfr, State.setFrames_setFrames]
    rw [show ((T.setFrames (.throwing q :: (T.setFrames (.java (F0 m pc ls rest) :: below)).frames)).setVm (T.vm.noted m.cls x.catchType (.cls cT))) = (T.setVm (T.vm.noted m.cls x.catchType (.cls cT))).setFrames (.throwing q :: (T.setFrames (.java (F0 m pc ls rest) :: below)).frames) from rfl, State.setFrames_setFrames]
  rw [e1]
  exact a1
end VYA
