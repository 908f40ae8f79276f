/-! a call that throws -/
section ZTC
variable {X : zX} {R : Room} {M M' : zM} {h : zH} {n pc k j d' ix na b ci N : Nat} {lv : List (Nat × Value)} {st av fs : List Value} {Tt : u_T} {E : String}
variable {p : Program} {e : Env} {s : State} {m : MethodId} {args : Array Value} {below : List Frame} {meth : Method} {c : Code} {A : Nat → Prop} {locs : List Loc} {ls : Array Slot} {T : State}
/-- the callee has thrown: its exception lies over the caller's frame -/
theorem zInto (hB : zB X M p s m args meth c A) (hDD : zD X A s false k h n T.heap locs) (Y : Stand p X.1 e R s m args below meth c T locs k j) (hls : ls.size = c.maxLocals)
    (hd : decode M.2.1 pc = .ok (.invokevirtual ix, 3)) (g : zGv M.1.cls ix M' na) (hC : zTC X d' M' 1 6 (.ref b :: av) h n E) (hb : b < n) (hc : h b = .inr (ci, fs)) (hci : zCl[ci]? = some (M'.1.cls, Tt, N)) (hR : zRm R d' 1 6 k j) (hna : av.length = na) (hsum : (st.map fun v => v.category).sum ≤ 8) :
    ∃ (q : Addr) (T' : State) (L : List Loc) (ce : Cell), Stand p X.1 e R s m args below meth c T' (locs ++ L) (k + 1) (j + 6) ∧ Steps p.tables e below (T.setTop (F0 m pc ls ((av.reverse ++ .ref b :: st).map (zV X.2.2.2.1)))) ((T'.setTop (F0 m pc ls (st.map (zV X.2.2.2.1)))).pushFrame (.throwing q)) ∧
      T'.heap[q]? = some ce ∧ ce.vm = .none ∧ s.vm.findClass E = some ce.cls ∧ zD X A s false (k + 1) h n T'.heap (locs ++ L) := by
  have hsz : T.heap.size ≤ s.heap.size + k := by have h9 := Y.heapSize; omega
  obtain ⟨⟨g1, g2, g3, g4⟩, g5, g6, g7⟩ := g
  obtain ⟨r1, r2, r3, r4⟩ := hR
  obtain ⟨cellB, hcB, hsB, hfB⟩ := va_recv hB.kinds hDD.1 hci (q0 := b) (a := X.2.2.2.1 b) (fs := fs.map (zV X.2.2.2.1)) (by rw [zW_get hb, hc]; rfl)
  obtain ⟨mk, methM, hnM, hmM, hstM, habM⟩ := Cond.instanceMethod_spec (hB.word g6)
  obtain ⟨methM', cM, hmM', hcM, -, hlM, -, -, -, hsM⟩ := Cond.code_spec hnM (hB.word g1)
  cases hmM.symm.trans hmM'
  obtain ⟨c2, r2', m2, q1, q2, q3, q4, kP, hkP, hkPi⟩ := Cond.selects_spec (hB.word g7)
  cases Option.some.inj (hfB.symm.trans q1)
  cases Option.some.inj ((State.methodFound?_of_named hnM ⟨g3.1, g3.2.1⟩).symm.trans q2)
  cases Option.some.inj (hnM.symm.trans q3)
  have hinP : kP.init = .initialized := Cond.initialized_spec (findClass_of_methodNamed hnM) hkP (hB.word g2)
  have hlen : (av.map (zV X.2.2.2.1)).length = methM.sig.parameters.length := by
    have h1 := g3.2.2
    rw [hsM] at h1
    rw [List.length_map, hna]
    exact (Option.some.inj h1).symm
  obtain ⟨vm1, Y1, st1⟩ := Y.invokevirtual hB.1 hB.own (hB.word g5) hnM hmM hstM hkP hkPi ⟨g3.1, g3.2.1⟩ (a := X.2.2.2.1 b) (cell := cellB) hcB
    (fun z hz => by rw [hz] at hsB; cases hsB) (by rw [Launch.admits_selectMethod Y.admits]; exact q4) hmM habM hkP hkPi (g := F0 m pc ls ((av.reverse ++ .ref b :: st).map (zV X.2.2.2.1))) rfl (argsL := av.map (zV X.2.2.2.1)) (rest := st.map (zV X.2.2.2.1)) hlen (by simp [zV]) (by rw [hB.2.1]; exact hd)
  generalize hU : T.setVm vm1 = U at Y1 st1
  have hUh : U.heap = T.heap := by rw [← hU]; rfl
  have hdg : decode c.code pc = .ok (.invokevirtual ix, 3) := by rw [hB.2.1]; exact hd
  have hat : At U (F0 m pc ls (st.map (zV X.2.2.2.1))).method c below := Y1.here
  have hWU : s.WarmedH U.vm := Y1.warmed
  obtain ⟨kP1, hkP1, heP1⟩ := hWU.alike.2.2 _ _ hkP
  have hws : ∀ w ∈ zws M', ∀ a' : Array Value, w.before a' U = true := by
    intro w hw a'
    exact pay_in hB.words (zGood (zGood' g1)) w hw a' U hWU
  have happ : (headSpec (zws M') (zR d' 1 6)).appliesLoose M'.1 e.platform (U.calling (F0 m pc ls (st.map (zV X.2.2.2.1))) mk (.ref (X.2.2.2.1 b) :: av.map (zV X.2.2.2.1)).toArray) = true :=
    Spec.appliesLoose_calling (g := F0 m pc ls (st.map (zV X.2.2.2.1))) hat hdg
      (show U.methodNamed? M'.1 = some mk by
        have q : (s.setVm U.vm).methodNamed? M'.1 = some mk := by rw [State.methodNamed?_setVm hWU.alike]; exact hnM
        exact q)
      hkP1 (by rw [heP1]; exact hinP)
      (Y1.room_calling (g := F0 m pc ls (st.map (zV X.2.2.2.1))) (R' := zR d' 1 6) hls (show U.vm.method? mk = some methM by rw [hWU.alike.method?]; exact hmM) hcM (by show d' + 3 + 1 ≤ R.frames; omega) (by rw [hlM]; have h0 := lv_room (m := m) (pc := pc) (ls := ls) (rest := st.map (zV X.2.2.2.1)) (zst_sum (ad := X.2.2.2.1) hsum); show 2 * (F0 m pc ls (st.map (zV X.2.2.2.1))).monitorRoom + ((st.map (zV X.2.2.2.1)).map fun v => v.category).sum + (M'.2.2.1 + 11) + 33 * d' ≤ R.locals; omega) r3 r4)
      (atoms_intro fun w hw => hws w hw _)
  obtain ⟨mid, hmid⟩ := hat.above
  have hfr : (U.setTop (F0 m pc ls (st.map (zV X.2.2.2.1)))).frames = (.java (F0 m pc ls (st.map (zV X.2.2.2.1))) :: mid) ++ below := by
    rw [State.frames_setTop' _ hat.top, hmid]
    rfl
  have hpr := zc_pre hDD hB hsz (.ref b :: av)
  obtain ⟨o, t, hsteps, hrun, hend, hq⟩ := Steps.callFree (hC T.heap.size) p Y1.admits Y1.cas Y1.clock (acts := []) hfr happ (hpr.1 _ U (F0 m pc ls (st.map (zV X.2.2.2.1))) mk (hpr.2 U hUh hWU)) trivial
  obtain ⟨q, ce, ho, h1, h2, h3, hF, hWt, L, hsame, hL⟩ := hq
  subst ho
  rw [State.frames_setTop' _ hat.top, Y1.tail] at hend
  obtain ⟨T', Y2, hW2, hs2, ht⟩ := Y1.outOfThrown (g := F0 m pc ls (st.map (zV X.2.2.2.1))) rfl hend hWt hsame
  have hht : t.heap = T'.heap := by rw [ht]; rfl
  have hin := zc_in hDD hB
  have hFc : (U.calling (F0 m pc ls (st.map (zV X.2.2.2.1))) mk (.ref (X.2.2.2.1 b) :: av.map (zV X.2.2.2.1)).toArray).heap = T.heap := hUh
  refine ⟨q, T', L, ce, Y2, st1 _ (fun acts => ?_), by rw [← hht]; exact h1, h2, ?_, ?_⟩
  · rw [doInvoke_state] at hsteps ⊢
    rw [← ht]
    exact hsteps
  · have h4 : U.vm.findClass E = some ce.cls := h3
    rw [← hWU.alike.findClass]
    exact h4
  · obtain ⟨f1, f2, f3, f4⟩ := hF
    rw [hht] at f1
    exact ⟨f1, hDD.2.1, zc_keep (t := t) hB hDD hFc hht.symm hL f3, fun hf => nomatch hf⟩
/-- the caller throws what the callee threw -/
theorem z_callT {d : Nat} {stk : List Value} (hM : M.1.cls = "TableMachine") (hd : decode M.2.1 pc = .ok (.invokevirtual ix, 3)) (g : zGv M.1.cls ix M' na) (hC : zTC X d' M' 1 6 (.ref b :: av) h n E) (hb : b < n) (hc : h b = .inr (ci, fs)) (hci : zCl[ci]? = some (M'.1.cls, Tt, N)) (hstk : av.reverse ++ .ref b :: st = stk) (hR : zRm (zR d 1 6) d' 1 6 0 0) (hna : av.length = na) (hsum : (st.map fun v => v.category).sum ≤ 8) :
    zJ X (zR d 1 6) M (zThr X 1 6 E h n) false 0 0 h n pc lv stk := by
  intro p e s m args below meth c A H locs ls hB hDD hL T hT Y
  subst hT
  subst hstk
  obtain ⟨q, T', L, ce, Y2, st1, h1, h2, h3, hD2⟩ := zInto hB hDD Y (ls := ls) (by rw [hB.2.2.1]; exact hL.1) hd g hC hb hc hci hR hna hsum
  obtain ⟨l1, l2, l3, l4, l5⟩ := Y2.leaveThrown q (g := F0 m pc ls (st.map (zV X.2.2.2.1))) rfl rfl rfl (fun x hx => (hB.noEx (by rw [hM]; decide) x hx).elim) hB.2.2.2.2.1
  refine ⟨_, st1.trans l1, .threw q, l2, l3, q, ce, rfl, h1, h2, h3, ⟨hD2.1, hD2.2.1, hD2.2.2.1.F rfl, fun hf => nomatch hf⟩, l4, locs ++ L, l5, hD2.2.2.1.2.2⟩
end ZTC
