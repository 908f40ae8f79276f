/-! methods that throw: nothing of the heap is changed, but that the exception is new -/
def zTQ (X : zX) (A : Nat → Prop) (mc ms : Nat) (E : String) (h : zH) (n : Nat) : Array Value → State → Outcome → State → Prop := fun _ st oc t =>
  ∃ (q : Addr) (ce : Cell), oc = .threw q ∧ t.heap[q]? = some ce ∧ ce.vm = .none ∧ st.vm.findClass E = some ce.cls ∧ zF X A false h n st t ∧ st.WarmedH t.vm ∧ ∃ L, st.sameButNew ({ t with vm := st.vm } : State) L mc ms ∧ ∀ z ∈ L, A z.base
/-- the method throws an E -/
def zThr (X : zX) (mc ms : Nat) (E : String) (h : zH) (n : Nat) : zQT := fun A below args s => fun t => ∃ o, t.status = .running ∧ Ended t below o ∧ zTQ X A mc ms E h n args s o t
/-- a contract: from the heap h, called with av, M throws an E -/
def zTC (X : zX) (d : Nat) (M : zM) (mc ms : Nat) (av : List Value) (h : zH) (n : Nat) (E : String) : Prop :=
  ∀ sz : Nat, MetFree X.1 M.1 (headSpec (zws M) (zR d mc ms)) (zPc X false av h n sz) (fun _ _ _ _ _ => True) (zTQ X (va_A (zW X.2.2.2.1 X.2.2.2.2 h n) sz) mc ms E h n)
theorem zTC_of {X : zX} {d : Nat} {M : zM} {mc ms : Nat} {av : List Value} {h : zH} {n : Nat} {E : String} (hy : plainName M.1.cls = true) (hlen : (lg_sl av).length ≤ M.2.2.1) (hJ : zJ X (zR d mc ms) M (zThr X mc ms E h n) false 0 0 h n 0 (lv_args 0 av) []) : zTC X d M mc ms av h n E := by
  intro sz
  refine MetFree.of_bodyS (code := M.2.1) (maxLocals := M.2.2.1) (ret := M.2.2.2) hy ?_ ?_
  · intro args s m h hn
    obtain ⟨meth, c, h1, h2, h3, h4, h5, h6, -, -⟩ := Cond.code_spec hn (atoms_spec (ws := zws M) h _ List.mem_cons_self)
    exact ⟨meth, c, h1, h2, h3, h4, h5, h6⟩
  · intro p e s m args below meth c s₁ B hml hv _
    have hh0 : s₁.heap = s.heap := by rw [B.state]; rfl
    obtain ⟨rfl, hsz, hP, hK, hD0, hst, hfr⟩ := hv
    subst hsz
    have hl := lv_entry (av.map (zV X.2.2.2.1)) (n := M.2.2.1) (by rw [zlg_len]; exact hlen)
    rw [zlv_map] at hl
    have hpre := atoms_spec (ws := zws M) B.pre
    have hT : ∀ x ∈ c.exceptionTable.toList, False := by
      have h7 := BodyLoose.noHandlers B (hpre _ List.mem_cons_self)
      intro x hx
      rw [Array.isEmpty_iff.mp h7] at hx
      cases hx
    have hW := hJ p e s m _ below meth c _ s.heap [] _ ⟨B.exec, B.bytes, hml, B.returns, B.notSynchronized, fun w hw => hpre w (List.mem_cons_of_mem _ hw), findClass_of_methodNamed B.named, (name_of_methodNamed B.named B.method).1, ⟨fun _ => hT, B.named⟩, hK, hst, fun q h => Or.inr h⟩
      ⟨hP, hD0.self, va_S.rf, fun hf => nomatch hf⟩ hl
    rw [← hh0] at hW
    obtain ⟨t, a1, o, b1, b2, b3⟩ := hW s₁ rfl (Stand.of_body B)
    rw [List.map_nil, ← lg_entry_eq] at a1
    rw [hh0] at b3
    exact ⟨t, o, a1, b1, b2, b3⟩
/-- the walk may be looked at as beginning here -/
theorem zRebase {p : Program} {l : Launch} {e : Env} {R R' : Room} {s : State} {m : MethodId} {args : Array Value} {below : List Frame} {meth : Method} {c : Code} {T : State} {locs : List Loc} {k j : Nat} (Y : Stand p l e R s m args below meth c T locs k j)
    (hf : R'.frames ≤ R.frames) (hl : R'.locals ≤ R.locals) (hc : k + R'.cells ≤ R.cells) (hs : j + R'.slots ≤ R.slots) : Stand p l e R' ((T.setVm s.vm).setFrames (.invoking m args :: below)) m args below meth c T [] 0 0 := by
  obtain ⟨g₀, hfr⟩ := Y.frames_eq
  have hcur : T.cur < T.threads.size := State.cur_lt_of_frames hfr
  have hF : ((T.setVm s.vm).setFrames (.invoking m args :: below)).frames = .invoking m args :: below := State.frames_setFrames _ hcur
  have hlim : e.platform.stackLimits ((T.setVm s.vm).setFrames (.invoking m args :: below)).me = e.platform.stackLimits s.me := by
    rw [State.stackLimits_setFrames]; exact Y.limits
  have hby : ((T.setVm s.vm).setFrames (.invoking m args :: below)).me.stackBytes = s.me.stackBytes := by
    rw [State.stackBytes_setFrames]; exact Y.bytes
  have hroom : ((T.setVm s.vm).setFrames (.invoking m args :: below)).hasRoom e.platform R' = true := by
    have h := Y.room
    have hU : ((T.setVm s.vm).setFrames (.invoking m args :: below)).localsInUse = s.localsInUse := by
      rw [State.localsInUse_invoking hF (meth := meth) (c := c) Y.method Y.code, State.localsInUse_invoking Y.frames Y.method Y.code]
    have q1 := Y.heapSize
    have q2 := Y.used
    simp only [State.hasRoom, Bool.and_eq_true, decide_eq_true_eq] at h ⊢
    obtain ⟨⟨⟨⟨h1, h2, h3, h4, h5, h6⟩, h7⟩, h8⟩, h9⟩ := h
    rw [Y.frames, List.length_cons] at h2 h3
    rw [hU, hF, hlim, hby, List.length_cons]
    refine ⟨⟨⟨⟨by omega, by omega, by omega, by omega, by omega, h6⟩, ?_⟩, ?_⟩, Y.book⟩
    · show T.heap.size + R'.cells ≤ e.platform.maxCells
      omega
    · show T.slotsUsed + R'.slots ≤ e.platform.maxSlots
      omega
  obtain ⟨t, ht, -⟩ := State.frames_cons hF
  have hsame : ((T.setVm s.vm).setFrames (.invoking m args :: below)).sameButNew (T.setVm s.vm) [] 0 0 := by
    have h1 := (State.sameButNew.refl ((T.setVm s.vm).setFrames (.invoking m args :: below)) ht).setFrames (T.setVm s.vm).frames (State.cur_lt_of_frames hF)
    obtain ⟨t2, ht2, -⟩ := State.frames_cons (show (T.setVm s.vm).frames = _ from hfr)
    rw [State.setFrames_setFrames, State.setFrames_self ht2] at h1
    exact h1
  exact ⟨Y.admits, Y.cas, Y.clock, hF, hroom, Y.hears, Y.method, Y.code, Y.here, Y.tail, Y.warmed, (Y.limits.trans hlim.symm), (Y.bytes.trans hby.symm), hsame⟩
