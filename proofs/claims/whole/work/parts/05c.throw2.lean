/-! the words that a throw reads -/
def zUp : List String := ["java/lang/RuntimeException", "java/lang/Exception"]
def zThW (w : Cond) : Bool := (w.onTables && ((decide (w ∈ tables_1) && (goodWord w || zFw w)) || (decide (w ∈ k2_sels lw_privs) && goodWord w))) || decide (w = .laysStatic zTn2 "UNASSIGNED_STACK" zSt2) || decide (w = .laysStatic zTn2 "SUPPRESSED_SENTINEL" zLi2) || decide (w = .isRef (.static zTn2 "UNASSIGNED_STACK" zSt2)) || decide (w = .isRef (.static zTn2 "SUPPRESSED_SENTINEL" zLi2))
theorem zThW_word {l : Launch} {A : Nat → Prop} {s s' : State} {args : Array Value} {w : Cond} (h : zThW w = true) (hv : s.vm = s'.vm) (hw : ∀ w ∈ zWA, w.before args s = true) (hT : zThb l A s' s'.heap) : w.before args s' = true := by
  obtain ⟨-, h1, -, h3, h4, h5, h6⟩ := hT
  simp only [zThW, Bool.or_eq_true, Bool.and_eq_true, decide_eq_true_eq] at h
  rcases h with (((⟨ho, h⟩ | h) | h) | h) | h
  · rcases h with ⟨hm, hg | hg⟩ | ⟨hm, hg⟩
    · exact va_tabs ho hv (hw w (List.mem_filter.mpr ⟨List.mem_append_right _ hm, hg⟩))
    · exact va_Nw.use ho (h1 w (List.mem_filter.mpr ⟨hm, hg⟩))
    · exact va_tabs ho hv (hw w (List.mem_filter.mpr ⟨List.mem_append_left _ hm, hg⟩))
  · rw [h]; exact zLs_word h5
  · rw [h]; exact zLs_word h6
  · rw [h]; exact zZq_word h3
  · rw [h]; exact zZq_word h4
/-- what making an E and throwing it comes to -/
def zCT (ic : Nat) (E : String) : Prop := ∀ (p : Program) (l : Launch) (e : Env) (d : Nat) (s : State) (m : MethodId) (args : Array Value) (below : List Frame) (meth : Method) (c : Code) (T : State) (pc : Nat) (ls : Array Slot) (sa a : Nat) (cX : ClassId) (kX : Class),
  Stand p l e (zR d 1 6) s m args below meth c T [] 1 6 → 3 ≤ d → p.tables.exec = Jvm.exec → e.platform.stackTraces = false → s.vm.findClass "TableMachine" = some m.cls → (∀ w, zThW w = true → w.before args s = true) →
  s.vm.findClass E = some cX → s.vm.classes[cX]? = some kX → T.heap[a]? = some (freshCell cX kX) → s.heap.size ≤ a → ls.size = c.maxLocals → decode c.code pc = .ok (.invokespecial ic, 3) → decode c.code (pc + 3) = .ok (.athrow, 1) → (∀ x ∈ c.exceptionTable.toList, False) → meth.locks = false →
  ∃ U : State, Steps p.tables e below (T.setTop (F0 m pc ls [.ref sa, .ref a, .ref a])) U ∧ U.status = .running ∧ Ended U below (.threw a) ∧ s.WarmedH U.vm ∧ s.sameButNew ({ U with vm := s.vm } : State) [] 1 6 ∧ ∃ ce : Cell, U.heap[a]? = some ce ∧ ce.vm = .none ∧ s.vm.findClass E = some ce.cls
theorem zCT_lib {ic : Nat} {E : String} (hf : Bundle.fit E = true) (hw : (Bundle.ownAtoms "TableMachine" ic E zUp).all zThW = true) : zCT ic E := by
  intro p l e d s m args below meth c T pc ls sa a cX kX Y hd hexec htr hown hwd hfX hkX hcell hnew hls d6 d9 hx hlk
  obtain ⟨U, hsteps, hrun, hend, hWm, hsame, ce, hce, K⟩ := Y.ctorThrowS hexec htr (own := "TableMachine") (cls := E) (names := zUp) (ic := ic) hown hf (by decide +kernel)
    (fun w hwm => hwd w (List.all_eq_true.mp hw w hwm)) (fun y hy => by cases hy) hfX hkX (a := a) hcell hnew (msg := .ref sa) rfl
    (g := F0 m pc ls [.ref sa, .ref a, .ref a]) rfl hls rfl rfl (rest := []) rfl d6 d9 (fun x h => (hx x h).elim) (by simp [zR, zUp]; omega) (by simp [zR, zUp, Value.category, JFrame.monitorRoom]; omega) hlk
  exact ⟨U, hsteps, hrun, hend, hWm, hsame, ce, hce, K.vm, K.cls⟩
/-- an exception that is made at a place: its class, its links -/
def zTx (ix ic : Nat) (E : String) : Prop := zThW (.classLink "TableMachine" ix E) = true ∧ zThW (.instantiable E 6) = true ∧ zThW (.initialized E) = true ∧ zCT ic E
set_option maxRecDepth 100000 in
theorem zTx_A : zTx 47 51 "java/lang/IllegalArgumentException" := ⟨by decide +kernel, by decide +kernel, by decide +kernel, zCT_lib (by decide +kernel) (by decide +kernel)⟩
set_option maxRecDepth 100000 in
theorem zTx_S : zTx 60 64 "java/lang/IllegalStateException" := ⟨by decide +kernel, by decide +kernel, by decide +kernel, zCT_lib (by decide +kernel) (by decide +kernel)⟩
set_option maxRecDepth 100000 in
theorem zTx_I : zTx 161 165 "java/lang/IndexOutOfBoundsException" := ⟨by decide +kernel, by decide +kernel, by decide +kernel, zCT_lib (by decide +kernel) (by decide +kernel)⟩
