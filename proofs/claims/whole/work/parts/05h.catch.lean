/-! a throw that is caught, by the name of a class that may never have been looked up before -/
section ZCA
variable {e : Env} {f : JFrame} {a : Addr} {cell : Cell}
theorem zGoR {s : State} {x : ExceptionTableEntry} {t : List ExceptionTableEntry} {c : ClassId} (hx : covers x f.pc = true) (h0 : x.catchType ≠ 0) (hl : s.vm.ClassLinks e.platform f.method.cls x.catchType c)
    (hcell : s.heap[a]? = some cell) (hobj : ∀ k, cell.vm ≠ .statics k) (hk : ∃ k, s.vm.classes[cell.cls]? = some k) (Q : Handler → Pre) (E : CtlPost) (d : Bool) (acts : List Action) :
    wp (findHandler.go f a (x :: t)) Q E e d acts s ↔ (if s.vm.assignable cell.cls c = true then Q (.found x.handlerPc) d acts (s.setVm (s.vm.noted f.method.cls x.catchType (.cls c))) else wp (findHandler.go f a t) Q E e d acts (s.setVm (s.vm.noted f.method.cls x.catchType (.cls c)))) := by
  obtain ⟨r1, r2⟩ := (resolveClass_links e.toSetting hl).op (op := VmOp.resolveClass f.method.cls x.catchType) rfl
  have hal : s.vm.Alike (s.vm.noted f.method.cls x.catchType (.cls c)) := (Vm.Alike.refl s.vm).noted _ _ _
  obtain ⟨k, hk⟩ := hk
  obtain ⟨k1, hk1, -⟩ := hal.2.2 _ _ hk
  obtain ⟨-, -, -, ck, -, -, -, -, -, hck, -, -⟩ := hl.here
  obtain ⟨k2, hk2, -⟩ := hal.2.2 _ _ hck
  simp only [covers] at hx
  by_cases hf : s.vm.assignable cell.cls c = true
  · have h1 : (s.vm.noted f.method.cls x.catchType (.cls c)).assignable cell.cls c = true := by rw [hal.assignable]; exact hf
    simp [findHandler.go, hx, h0, r1, r2, hcell, hobj, hk1, hk2, h1, hf, VmOp.dirties, VmOp.acts]
  · have h1 : (s.vm.noted f.method.cls x.catchType (.cls c)).assignable cell.cls c = false := by rw [hal.assignable]; simpa using hf
    simp [findHandler.go, hx, h0, r1, r2, hcell, hobj, hk1, hk2, h1, hf, VmOp.dirties, VmOp.acts]
theorem zStepC {tb : Tables} {s target : State} {g : JFrame} {c : Code} {below : List Frame} (h : At s g.method c below) {pc : Nat} {vm' : Vm}
    (hfind : ∀ (Q : Handler → Pre) (E : CtlPost) (d : Bool) (acts : List Action), wp (findHandler g a) Q E e d acts ((s.setTop g).pushFrame (.throwing a)) ↔ Q (.found pc) d acts (((s.setTop g).pushFrame (.throwing a)).setVm vm'))
    (hrest : Steps tb e below ((s.setVm vm').setTop { g with pc := pc, stack := [.ref a] }) target) : Steps tb e below ((s.setTop g).pushFrame (.throwing a)) target := by
  obtain ⟨g₀, hg⟩ := Option.isSome_iff_exists.mp h.top
  obtain ⟨r, hr⟩ := State.topJava?_eq_some.mp hg
  have hst : (stepThrowing e ((s.setTop g).pushFrame (.throwing a)) a (.java g :: r)).Is ((((s.setTop g).pushFrame (.throwing a)).setVm vm').setFrames (.java { g with pc := pc, stack := [.ref a] } :: r)) [] := by
    simp only [stepThrowing, searchFrame, vmDo]
    generalize hq : Sem.go _ e false [] ((s.setTop g).pushFrame (.throwing a)) = res
    obtain ⟨as, rfl, ha⟩ := Sem.eq_ok_of hq (a := Handler.found pc) (s' := ((s.setTop g).pushFrame (.throwing a)).setVm vm') (acts' := []) (by simp [hfind _ _ _ _])
    exact ⟨rfl, ha⟩
  obtain ⟨hgo, hw⟩ := h.throwing a
  refine Steps.head hgo hw ?_
  have hfe := frames_entered h.top (.throwing a) (g := g)
  rw [hr, List.tail_cons] at hfe
  rw [stepThread_throwing hfe, hst.1]
  have hr' : (s.setVm vm').frames = .java g₀ :: r := hr
  rw [State.setTop_of_frames _ hr'] at hrest
  have e1 : (((s.setTop g).pushFrame (.throwing a)).setVm vm').setFrames (.java { g with pc := pc, stack := [.ref a] } :: r) = (s.setVm vm').setFrames (.java { g with pc := pc, stack := [.ref a] } :: r) := by
    have h1 : ∀ (u : State) (F : List Frame), (u.setFrames F).setVm vm' = (u.setVm vm').setFrames F := fun _ _ => rfl
    rw [State.setTop_of_frames _ hr, State.pushFrame, State.setFrames_setFrames, h1, State.setFrames_setFrames]
  rw [e1]
  exact hrest
end ZCA
section ZCB
variable {p : Program} {l : Launch} {e : Env} {R : Room} {s : State} {m : MethodId} {args : Array Value} {below : List Frame} {meth : Method} {c : Code} {T : State} {locs : List Loc} {k j : Nat} {ls : Array Slot} {st : List Value} {pc : Nat} {q : Addr} {ce : Cell} {own E E1 : String}
def zRow (x : ExceptionTableEntry) : Nat × Nat × Nat × Nat := (x.startPc, x.endPc, x.handlerPc, x.catchType)
theorem zRow_cov {x : ExceptionTableEntry} {a0 a1 hp ct : Nat} (h : zRow x = (a0, a1, hp, ct)) (h0 : a0 ≤ pc) (h1 : pc < a1) : covers x pc = true ∧ x.handlerPc = hp ∧ x.catchType = ct := by
  simp only [zRow, Prod.mk.injEq] at h
  obtain ⟨e1, e2, e3, e4⟩ := h
  refine ⟨?_, e3, e4⟩
  simp only [covers, e1, e2]
  simp [h0, h1]
theorem zCaught1 (Y : Stand p l e R s m args below meth c T locs k j) (hown : s.vm.findClass own = some m.cls) {a0 a1 hp ct : Nat} {hr : List (Nat × Nat × Nat × Nat)} (htab : c.exceptionTable.toList.map zRow = (a0, a1, hp, ct) :: hr) (h0 : a0 ≤ pc) (h1 : pc < a1) (hct : ct ≠ 0)
    (hlk : (Cond.classLink own ct E).before args s = true) (hce : T.heap[q]? = some ce) (hvm : ce.vm = .none) (hE : s.vm.findClass E = some ce.cls) :
    ∃ vm' : Vm, Stand p l e R s m args below meth c (T.setVm vm') locs k j ∧ ∀ target, Steps p.tables e below ((T.setVm vm').setTop (F0 m hp ls [.ref q])) target → Steps p.tables e below ((T.setTop (F0 m pc ls st)).pushFrame (.throwing q)) target := by
  have hpl : e.platform.magicAccessors = ({} : Platform).magicAccessors := by rw [Y.admits.platform]
  obtain ⟨c', hc', hl⟩ := Cond.classLink_spec hown hlk e.platform hpl
  cases Option.some.inj (hE.symm.trans hc')
  obtain ⟨x, t, hxt, hx, -⟩ := List.map_eq_cons_iff.mp htab
  obtain ⟨x1, x2, x3⟩ := zRow_cov hx h0 h1
  obtain ⟨dk, _, _, kt, hd, _, _, _, _, hkt, _, hopen⟩ := hl.here
  obtain ⟨kt', hkt', -⟩ := Y.warmed.alike.2.2 _ _ hkt
  refine ⟨T.vm.noted m.cls ct (.cls ce.cls), Y.noted (Y.warmed.noted hd hopen (State.rightAt_cls hl)), fun target hrest => ?_⟩
  refine zStepC (g := F0 m pc ls st) Y.here (fun Q E d acts => ?_) hrest
  rw [W.findHandler_eq (f := F0 m pc ls st) (s := (T.setTop (F0 m pc ls st)).pushFrame (.throwing q)) (meth := meth) (code := c) Y.method' Y.code, hxt]
  rw [zGoR (f := F0 m pc ls st) (s := (T.setTop (F0 m pc ls st)).pushFrame (.throwing q)) (c := ce.cls) (cell := ce) x1 (by rw [x3]; exact hct) (by rw [x3]; exact Y.warmed.classLinks hl) hce (fun _ => by rw [hvm]; simp) ⟨kt', hkt'⟩, if_pos (va_asg _ _), x2, x3]
  rfl
theorem zCaught2 (Y : Stand p l e R s m args below meth c T locs k j) (hown : s.vm.findClass own = some m.cls) {b0 b1 hb cb a0 a1 hp ct : Nat} {hr : List (Nat × Nat × Nat × Nat)} (htab : c.exceptionTable.toList.map zRow = (b0, b1, hb, cb) :: (a0, a1, hp, ct) :: hr) (g0 : b0 ≤ pc) (g1 : pc < b1) (hcb : cb ≠ 0) (h0 : a0 ≤ pc) (h1 : pc < a1) (hct : ct ≠ 0)
    (hlb : (Cond.classLink own cb E1).before args s = true) (hno : zNc E E1 s) (hlk : (Cond.classLink own ct E).before args s = true) (hce : T.heap[q]? = some ce) (hvm : ce.vm = .none) (hE : s.vm.findClass E = some ce.cls) :
    ∃ vm' : Vm, Stand p l e R s m args below meth c (T.setVm vm') locs k j ∧ ∀ target, Steps p.tables e below ((T.setVm vm').setTop (F0 m hp ls [.ref q])) target → Steps p.tables e below ((T.setTop (F0 m pc ls st)).pushFrame (.throwing q)) target := by
  have hpl : e.platform.magicAccessors = ({} : Platform).magicAccessors := by rw [Y.admits.platform]
  obtain ⟨c', hc', hl⟩ := Cond.classLink_spec hown hlk e.platform hpl
  cases Option.some.inj (hE.symm.trans hc')
  obtain ⟨b', hb', hl1⟩ := Cond.classLink_spec hown hlb e.platform hpl
  obtain ⟨n1, n2, m1, m2, m3⟩ := hno
  cases Option.some.inj (hE.symm.trans m1)
  cases Option.some.inj (hb'.symm.trans m2)
  obtain ⟨y, t0, hyt, hy, ht0⟩ := List.map_eq_cons_iff.mp htab
  obtain ⟨x, t, hxt, hx, -⟩ := List.map_eq_cons_iff.mp ht0
  subst hxt
  obtain ⟨x1, x2, x3⟩ := zRow_cov hx h0 h1
  obtain ⟨y1, y2, y3⟩ := zRow_cov hy g0 g1
  obtain ⟨dk, _, _, kt, hd, _, _, _, _, hkt, _, hopen⟩ := hl.here
  obtain ⟨dk1, _, _, -, hd1, _, _, _, _, -, _, hopen1⟩ := hl1.here
  obtain ⟨kt', hkt', -⟩ := Y.warmed.alike.2.2 _ _ hkt
  have hW1 : s.WarmedH (T.vm.noted m.cls cb (.cls b')) := Y.warmed.noted hd1 hopen1 (State.rightAt_cls hl1)
  obtain ⟨kt2, hkt2, -⟩ := hW1.alike.2.2 _ _ hkt
  have hna : ¬ (T.vm.assignable ce.cls b' = true) := by rw [Y.warmed.alike.assignable, m3]; simp
  refine ⟨(T.vm.noted m.cls cb (.cls b')).noted m.cls ct (.cls ce.cls), Y.noted (hW1.noted hd hopen (State.rightAt_cls hl)), fun target hrest => ?_⟩
  refine zStepC (g := F0 m pc ls st) Y.here (fun Q E d acts => ?_) hrest
  rw [W.findHandler_eq (f := F0 m pc ls st) (s := (T.setTop (F0 m pc ls st)).pushFrame (.throwing q)) (meth := meth) (code := c) Y.method' Y.code, hyt]
  rw [zGoR (f := F0 m pc ls st) (s := (T.setTop (F0 m pc ls st)).pushFrame (.throwing q)) (c := b') (cell := ce) y1 (by rw [y3]; exact hcb) (by rw [y3]; exact Y.warmed.classLinks hl1) hce (fun _ => by rw [hvm]; simp) ⟨kt', hkt'⟩, if_neg (show ¬ (((T.setTop (F0 m pc ls st)).pushFrame (.throwing q)).vm.assignable ce.cls b' = true) from hna), y3]
  refine Iff.trans (zGoR (f := F0 m pc ls st) (s := ((T.setTop (F0 m pc ls st)).pushFrame (.throwing q)).setVm (T.vm.noted m.cls cb (.cls b'))) (c := ce.cls) (cell := ce) x1 (by rw [x3]; exact hct) (by rw [x3]; exact hW1.classLinks hl) hce (fun _ => by rw [hvm]; simp) ⟨kt2, hkt2⟩ Q E d acts) ?_
  rw [if_pos (va_asg _ _), x2, x3]
  rfl
end ZCB
