theorem zFillSel {l : Launch} {e : Env} {s : State} {args : Array Value} (ha : l.admits e) {C : String} {cX : ClassId} (hC : s.vm.findClass C = some cX) {x : MethodName} {r : MethodId} (hx : x.cls ≠ "java/lang/invoke/MethodHandle" ∧ x.cls ≠ "java/lang/invoke/VarHandle") (hr : s.methodNamed? x = some r) (h : (Cond.selects C x x).before args s = true) : selectMethod e.platform s.vm cX r = .method r := by
  obtain ⟨c2, r2, m2, q1, q2, q3, q4, -⟩ := Cond.selects_spec h
  cases Option.some.inj (q1.symm.trans hC)
  cases Option.some.inj (q3.symm.trans hr)
  cases Option.some.inj (q2.symm.trans (State.methodFound?_of_named hr hx))
  rw [Launch.admits_selectMethod ha]
  exact q4
set_option maxHeartbeats 1000000 in
theorem zCT_N : zCT 121 zNe := by
  intro p l e d s m args below meth c T pc ls sa a cX kX Y hd hexec htr hown hwd hfX hkX hcell hnew hls d6 d9 hx hlk
  have hpl : e.platform.magicAccessors = ({} : Platform).magicAccessors := by rw [Y.admits.platform]
  have w4 : ∀ {w : Cond} (i : Nat), zNw4[i]? = some w → w.before args s = true := fun {w} i hi => hwd w (List.all_eq_true.mp zNw_4 w (List.mem_of_getElem? hi))
  have w3 : ∀ w ∈ Bundle.passSAtoms zNe "java/lang/RuntimeException" 13 zNb, w.before args s = true := fun w h => hwd w (List.all_eq_true.mp zNw_3 w h)
  obtain ⟨K, Z0, L, -, Ti⟩ := ThrowableC.of_atoms (args := args) (s := s) (pl := e.platform) (by rw [Y.admits.platform]) (by rw [Y.admits.platform]) hpl (fun w h => hwd w (List.all_eq_true.mp zNw_1 w h))
  obtain ⟨Z, Mm, LZ, LM, hnZ⟩ := Init0T.ofS_atoms (args := args) hpl L Ti (fun w h => hwd w (List.all_eq_true.mp zNw_2 w h))
  obtain ⟨P0, L0, hm0, hs0⟩ := PassC.ofS_atoms (args := args) (s := s) hpl (X := zNe) (Y := "java/lang/RuntimeException") (by decide +kernel) (by decide +kernel) zNb_0 zNb_1 zNb_2 zNb_5 w3
  obtain ⟨P1, Ps, hlen, L1, hL, hm1, hl1, hpass⟩ := Bundle.chainS (args := args) hpl hnZ ["java/lang/Exception"] "java/lang/RuntimeException" (by decide +kernel) (by decide +kernel) (fun w h => hwd w (List.all_eq_true.mp zNw_5 w h))
  have hlink : PassesOn (Z.m K.toThrowableT) ((P0 :: P1 :: Ps).map (·.toPassT)) := ⟨Option.some.inj (hs0.symm.trans hm1), hl1, hpass⟩
  have hfd : s.vm.findClass zNe = some P0.m.cls := findClass_of_methodNamed hm0
  cases Option.some.inj (hfX.symm.trans hfd)
  obtain ⟨c1, kX', hc1, hk, hord, -, -, hn6⟩ := Cond.instantiable_spec (w4 (w := .instantiable zNe 6) 1 rfl)
  cases Option.some.inj (hc1.symm.trans hfd)
  cases Option.some.inj (hkX.symm.trans hk)
  obtain ⟨cS, hcS, hiS⟩ := Ti.statics
  obtain ⟨u0, hu0⟩ := Cond.staticRefV Ti.unassigned L.unassignedStatic L.statics hcS hiS (w4 (w := .isRef (.static zTn2 "UNASSIGNED_STACK" zSt2)) 9 rfl)
  obtain ⟨sn, hsn⟩ := Cond.staticRefV Ti.sentinel L.sentinelStatic L.statics hcS hiS (w4 (w := .isRef (.static zTn2 "SUPPRESSED_SENTINEL" zLi2)) 10 rfl)
  have hlt : K.aS < s.heap.size := (Array.getElem?_eq_some_iff.mp hcS).1
  have hcST : T.heap[K.aS]? = some cS := (zKeep Y.same hlt).trans hcS
  have hne : K.aS ≠ a := Nat.ne_of_lt (Nat.lt_of_lt_of_le hlt hnew)
  have hun : cS.vm ≠ .unknown := by
    intro hu
    rw [hu] at hiS
    cases hiS
  obtain ⟨iM, hfM⟩ := Ti.msg
  obtain ⟨ci, ii, fB, hb1, hb2, hb3, hb4, -, hnB, htB, hfB⟩ := Cond.ownField (t := .object "java/lang/Object") Ti.found L.cls (by decide +kernel) (w4 (w := .fieldLink zTn2 198 zTn2 "backtrace" "Ljava/lang/Object;") 11 rfl) (w4 (w := .lays zTn2 zTn2 "backtrace" "Ljava/lang/Object;") 12 rfl) e.platform hpl
  obtain ⟨tyC, dC, eC, nC⟩ := Cond.laysAt hfd hk Ti.cause (w4 (w := .lays zNe zTn2 "cause" "Ljava/lang/Throwable;") 4 rfl)
  obtain ⟨tyS, dS, eS, nS⟩ := Cond.laysAt hfd hk Ti.stack (w4 (w := .lays zNe zTn2 "stackTrace" zSt2) 5 rfl)
  obtain ⟨tyP, dP, eP, nP⟩ := Cond.laysAt hfd hk Ti.supp (w4 (w := .lays zNe zTn2 "suppressedExceptions" zLi2) 6 rfl)
  obtain ⟨tyM, dM, eM, nM⟩ := Cond.laysAt hfd hk hfM (w4 (w := .lays zNe zTn2 "detailMessage" "Ljava/lang/String;") 7 rfl)
  obtain ⟨tyB, dB, eB, nB⟩ := Cond.laysAt hfd hk hfB (w4 (w := .lays zNe zTn2 "backtrace" "Ljava/lang/Object;") 8 rfl)
  have bC := Cond.laysApart eB eC nB nC (by rw [hnB, Ti.causeName]; decide)
  have bS := Cond.laysApart eB eS nB nS (by rw [hnB, Ti.stackName]; decide)
  have bP := Cond.laysApart eB eP nB nP (by rw [hnB, Ti.suppName]; decide)
  have hdef : (freshCell P0.m.cls kX).slots[fB.slot]? = some (defaultValue (.object "java/lang/Object")) := by
    have := fresh_default (c := P0.m.cls) tyB
    rw [htB] at this
    exact this
  have hskip : SkipFacts K e.platform s (fun u => u) u0 ((preparedCellV K.toThrowableT (freshCell P0.m.cls kX) a u0 sn).withEntry T.cur) :=
    ⟨{ ci198 := ci, i198 := ii, fBack := fB }, ⟨hb1, hb2, hb3, hb4⟩, by
      simpa [preparedCellV, Cell.setSlot, Cell.withEntry, Array.getElem?_setIfInBounds, bC, bS, bP, bC.symm, bS.symm, bP.symm, defaultValue] using hdef, fun _ _ => rfl⟩
  obtain ⟨tm, -, -, -, vm1, hnC, -, -, -, -, -, -, -, hW1, st1⟩ := Steps.initColdS (tb := p.tables) (e := e) (below := below) (s := s) (U := T) Y.here hexec Y.warmed hpl hown (t := Bundle.initS zNe) rfl rfl (by decide +kernel)
    (w4 (w := .methodLink "TableMachine" 121 (Bundle.initS zNe)) 0 rfl) (w3 _ List.mem_cons_self) (bytes := zNb) (maxL := 2) (w3 _ (List.mem_cons_of_mem _ List.mem_cons_self)) (f := F0 m pc ls [.ref sa, .ref a, .ref a]) rfl (a := a) (msg := .ref sa) (rest := [.ref a]) rfl d6
  cases Option.some.inj (hnC.symm.trans hm0)
  obtain ⟨vm2, Y2, st2⟩ := (Y.noted hW1).ctorMessageOffV hexec (g := F0 m pc ls [.ref a]) rfl hls K L Z LZ Mm LM (P0 :: P1 :: Ps)
    (fun P hP => by
      rcases List.mem_cons.mp hP with rfl | hP
      · exact L0
      · rcases List.mem_cons.mp hP with rfl | hP
        · exact L1
        · exact hL P hP) hlink (u0 := u0) (sen := sn) (self := a) (msg := .ref sa) rfl (cell := freshCell P0.m.cls kX) (cellS := cS)
    hcell (fun _ => by simp) (by simp) rfl rfl (zFillSel Y.admits hfd (by decide +kernel) Ti.fill0 (w4 (w := .selects zNe Bundle.tFill0 Bundle.tFill0) 2 rfl)) (zFillSel Y.admits hfd (by decide +kernel) Ti.fill (w4 (w := .selects zNe Bundle.tFill Bundle.tFill) 3 rfl)) hcST hne hun hu0 hsn
    (Takes.of_laid hk hord tyC (by rw [Ti.causeType]; rfl)) (Takes.of_laid hk hord tyS (by rw [Ti.stackType]; exact fits_refV_array _ u0)) (Takes.of_laid hk hord tyP (by rw [Ti.suppType]; exact fits_refV_object _ sn))
    (Takes.of_laid hk hord tyM (by rw [Ti.msgType]; exact fits_refV_object _ ⟨.ref sa, rfl⟩)) Ti.objLocals hskip htr [] d6
    (by simp [hlen, zR]; omega) (by simp [hlen, zR, Value.category, JFrame.monitorRoom]; omega)
  obtain ⟨hwalk, hrun, hended, hWU, hsame⟩ := Y2.athrowLeaves hexec (g := F0 m (pc + 3) ls [.ref a]) rfl rfl rfl (fun x h => (hx x h).elim) (a := a) (rest := []) rfl d9 hlk
  refine ⟨_, st1 _ (fun acts => ?_), hrun, hended, hWU, hsame.weaken (fun y hy hl => ?_) (Nat.le_refl _) (Nat.le_refl _), _, heapAt_setCell_self (s := (T.setVm vm1).setVm vm2) (plainBareV K.toThrowableT (freshCell P0.m.cls kX) a u0 sn (.ref sa)) (Array.getElem?_eq_some_iff.mp hcell).1, rfl, hfd⟩
  · rw [doInvoke_state]
    exact st2 _ hwalk
  · exfalso
    have hb : y.base = a := by
      simp only [List.nil_append, List.mem_cons, List.not_mem_nil, or_false] at hy
      rcases hy with rfl | rfl | rfl | rfl | rfl <;> rfl
    rw [hb] at hl
    exact Nat.not_lt.mpr hnew hl
theorem zTx_E : zTx 117 121 "java/util/NoSuchElementException" := ⟨by decide +kernel, by decide +kernel, by decide +kernel, zCT_N⟩
