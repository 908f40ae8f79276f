/-! A light judgement over the machine's: heaps as functions of small numbers, one row an instruction. -/
abbrev zX : Type := Launch × (Nat → ClassId) × (Nat → Nat → Nat) × (Nat → Nat) × (Nat → ClassId)
abbrev zM : Type := MethodName × ByteArray × Nat × Option FieldType
abbrev zH : Type := Nat → va_E
def zV (ad : Nat → Nat) (v : Value) : Value := match v with
  | .ref i => .ref (ad i)
  | v => v
def zA (ad : Nat → Nat) (a : vp_A) : vp_A := match a with
  | (n, .inr (.inr (.inr (.inr g)))) => (n, .inr (.inr (.inr (.inr fun i => (g i).map ad))))
  | x => x
def zE (ad : Nat → Nat) (ca : Nat → ClassId) (e : va_E) : va_E := match e with
  | .inl (t, x) => .inl (ca t, zA ad x)
  | .inr (c, fs) => .inr (c, fs.map (zV ad))
def zW (ad : Nat → Nat) (ca : Nat → ClassId) (h : zH) (n : Nat) : va_W := (List.range n).map fun i => (ad i, zE ad ca (h i))
theorem zV_cat (ad : Nat → Nat) (v : Value) : (zV ad v).category = v.category := by cases v <;> rfl
theorem zW_get {ad : Nat → Nat} {ca : Nat → ClassId} {h : zH} {n i : Nat} (hi : i < n) : (zW ad ca h n)[i]? = some (ad i, zE ad ca (h i)) := by
  simp [zW, List.getElem?_range hi]
theorem zW_inv {ad : Nat → Nat} {ca : Nat → ClassId} {h : zH} {n i : Nat} {q : Nat × va_E} (hq : (zW ad ca h n)[i]? = some q) : i < n ∧ q = (ad i, zE ad ca (h i)) := by
  have hl : i < (zW ad ca h n).length := (List.getElem?_eq_some_iff.mp hq).1
  have hi : i < n := by simpa [zW] using hl
  rw [zW_get hi] at hq
  exact ⟨hi, (Option.some.inj hq).symm⟩
theorem zW_set {ad : Nat → Nat} {ca : Nat → ClassId} {h : zH} {n i : Nat} {e : va_E} (hi : i < n) : (zW ad ca h n).set i (ad i, zE ad ca e) = zW ad ca (va_up h i e) n := by
  apply List.ext_getElem?
  intro j
  by_cases hj : j < n
  · by_cases hij : i = j
    · subst hij
      rw [List.getElem?_set_self (by simpa [zW] using hi), zW_get hi]
      simp [va_up]
    · rw [List.getElem?_set_ne hij, zW_get hj, zW_get hj]
      simp [va_up, Ne.symm hij]
  · rw [List.getElem?_eq_none (by simp [zW]; omega), List.getElem?_eq_none (by simp [zW]; omega)]
theorem zW_push {ad : Nat → Nat} {ca : Nat → ClassId} {h : zH} {n : Nat} {e : va_E} : zW ad ca h n ++ [(ad n, zE ad ca e)] = zW ad ca (va_up h n e) (n + 1) := by
  apply List.ext_getElem?
  intro j
  by_cases hj : j < n
  · rw [List.getElem?_append_left (by simpa [zW] using hj), zW_get hj, zW_get (by omega)]
    simp [va_up, Nat.ne_of_lt hj]
  · by_cases hij : j = n
    · subst hij
      rw [List.getElem?_append_right (by simp [zW]), zW_get (by omega)]
      simp [zW, va_up]
    · rw [List.getElem?_eq_none (by simp [zW]; omega), List.getElem?_eq_none (by simp [zW]; omega)]
/-- the words that hold at every state of the run -/
def zWA : List Cond := lw_tbl.filter goodWord
theorem zWA_good : ∀ w ∈ zWA, goodWord w = true := fun _ h => (List.mem_filter.mp h).2
theorem zWA_of {i : Nat} {w : Cond} (h : tables_1[i]? = some w) (hg : goodWord w = true) : w ∈ zWA := List.mem_filter.mpr ⟨List.mem_append_right _ (List.mem_of_getElem? h), hg⟩
theorem zWA_sel {i : Nat} {w : Cond} (h : (k2_sels lw_privs)[i]? = some w) (hg : goodWord w = true) : w ∈ zWA := List.mem_filter.mpr ⟨List.mem_append_left _ (List.mem_of_getElem? h), hg⟩
def zNest : List (String × Nat × MethodName) := [("TableMachine$Store", 41, ⟨"TableMachine$Table", "<init>", "()V"⟩), ("TableMachine$Machine", 20, ⟨"TableMachine$Program", "<init>", "()V"⟩), ("TableMachine$Machine", 27, ⟨"TableMachine$Results", "<init>", "()V"⟩), ("TableMachine$Machine", 51, ⟨"TableMachine$Cursor", "<init>", "()V"⟩), ("TableMachine", 42, ⟨"TableMachine$Question", "<init>", "()V"⟩), ("TableMachine$Store", 45, ⟨"TableMachine", "isIndex", "(II)Z"⟩), ("TableMachine$Question", 53, ⟨"TableMachine", "isIndex", "(II)Z"⟩), ("TableMachine$Op", 15, ⟨"TableMachine", "isIndex", "(II)Z"⟩), ("TableMachine$Kind", 9, ⟨"TableMachine", "isIndex", "(II)Z"⟩), ("TableMachine$Results", 28, ⟨"TableMachine", "isIndex", "(II)Z"⟩)]
def zKinds : List Int32 := [0, 0, 0, 1, 2, 0, 1, 3, 0, 1, 3, 0, 1, 4, 5, 1, 5, 0, 8, 5, 0, 5, 0, 0, 1, 3, 5, 5, 3, 5, 5, 3, 5, 5, 3, 5, 5, 3, 5, 5, 3, 5, 5, 3, 5, 5, 3, 0, 5, 3, 0, 5, 5, 5, 5, 7, 0, 3, 0, 0, 1, 3, 6, 1, 0, 0]
/-- what holds of the statics and the tables all the time; A: the cells that may change -/
def zS (X : zX) (A : Nat → Prop) (U : State) (H : Heap) : Prop :=
  ((∀ q ∈ zNest, va_Nw (.methodLinkNest q.1 q.2.1 q.2.2 "TableMachine") U) ∧ va_AO "TableMachine$Table" U ∧ va_AO "TableMachine$Cursor" U) ∧
  va_Z "TableMachine$Op" "KINDS" "[I" (.ref (X.2.2.2.1 900)) A U H ∧ va_T .int (X.2.2.2.1 900) 66 (fun j => .int (zKinds.getD j 0)) A U H ∧
  (∀ i, i < 200 → X.2.2.2.1 (i + 1) = X.2.2.2.1 i + 1) ∧ zThb X.1 A U H
theorem zS_same {X : zX} {A : Nat → Prop} {U U' : State} (hv : U.vm = U'.vm) (hh : U'.heap = U.heap) (h : zS X A U U.heap) : zS X A U' U'.heap := by
  obtain ⟨h1, h2, h3, h4, h5⟩ := h
  have ha : U.vm.Alike U'.vm := by rw [hv]; exact Vm.Alike.refl _
  rw [hh]
  exact ⟨⟨fun q hq => va_Nw.same rfl hv (h1.1 q hq), va_AO.moved ha h1.2.1, va_AO.moved ha h1.2.2⟩, va_Z.moved ha h2, va_T.moved ha h3, h4, zThb_same hv h5⟩
theorem zS_move {X : zX} {A A1 : Nat → Prop} {s U : State} {H : Heap} {locs : List Loc} (hW : s.WarmedH U.vm) (hA : ∀ q, A1 q → A q) (hS : va_S A s.heap H locs) (h : zS X A s s.heap) : zS X A1 U H := by
  obtain ⟨h1, h2, h3, h4, h5⟩ := h
  exact ⟨⟨fun q hq => va_Nw.warmM hW (h1.1 q hq), va_AO.moved hW.alike h1.2.1, va_AO.moved hW.alike h1.2.2⟩, va_Z.narrow (va_Z.moved hW.alike (va_Z.kept h2 hS.2.1)) hA, va_T.narrow (va_T.moved hW.alike (va_T.kept h3 hS.2.1)) hA, h4, zThb_move hW hA hS h5⟩
/-- the arrays' classes, by small numbers -/
def zT (ca : Nat → ClassId) : List (ClassId × FieldType) := [(ca 0, .int), (ca 1, .long), (ca 2, .boolean), (ca 3, .object zTab), (ca 4, .object zCur)]
def zws (M : zM) : List Cond := .code M.1 M.2.1 M.2.2.1 M.2.2.2 :: zWA
/-- the room of a method d calls high, that makes mc cells of ms slots -/
def zR (d mc ms : Nat) : Room := { frames := d + 3, cells := mc, slots := ms, locals := 33 * d }
/-- what holds from the start of a method to its end -/
def zB (X : zX) (M : zM) (p : Program) (s : State) (m : MethodId) (args : Array Value) (meth : Method) (c : Code) (A : Nat → Prop) : Prop :=
  p.tables.exec = Jvm.exec ∧ c.code = M.2.1 ∧ c.maxLocals = M.2.2.1 ∧ meth.sig.returnType = M.2.2.2 ∧ meth.locks = false ∧ (∀ w ∈ zWA, w.before args s = true) ∧ s.vm.findClass M.1.cls = some m.cls ∧ meth.name = M.1.name ∧
  ((M.1.cls ≠ "TableMachineLaw" → ∀ x ∈ c.exceptionTable.toList, False) ∧ s.methodNamed? M.1 = some m) ∧ va_K (X.2.1, X.2.2.1) zCl (zT X.2.2.2.2) s ∧ zS X A s s.heap ∧ (∀ q, s.heap.size ≤ q → A q)
section ZB
variable {X : zX} {M : zM} {p : Program} {s : State} {m : MethodId} {args : Array Value} {meth : Method} {c : Code} {A : Nat → Prop}
theorem zB.words (hB : zB X M p s m args meth c A) : ∀ w ∈ zWA, w.before args s = true := hB.2.2.2.2.2.1
theorem zB.word (hB : zB X M p s m args meth c A) {w : Cond} (h : w ∈ zWA) : w.before args s = true := hB.words w h
theorem zB.own (hB : zB X M p s m args meth c A) : s.vm.findClass M.1.cls = some m.cls := hB.2.2.2.2.2.2.1
theorem zB.mname (hB : zB X M p s m args meth c A) : meth.name = M.1.name := hB.2.2.2.2.2.2.2.1
theorem zB.noEx (hB : zB X M p s m args meth c A) (hM : M.1.cls ≠ "TableMachineLaw") : ∀ x ∈ c.exceptionTable.toList, False := hB.2.2.2.2.2.2.2.2.1.1 hM
theorem zB.named (hB : zB X M p s m args meth c A) : s.methodNamed? M.1 = some m := hB.2.2.2.2.2.2.2.2.1.2
theorem zB.kinds (hB : zB X M p s m args meth c A) : va_K (X.2.1, X.2.2.1) zCl (zT X.2.2.2.2) s := hB.2.2.2.2.2.2.2.2.2.1
theorem zB.stat (hB : zB X M p s m args meth c A) : zS X A s s.heap := hB.2.2.2.2.2.2.2.2.2.2.1
theorem zB.hA (hB : zB X M p s m args meth c A) : ∀ q, s.heap.size ≤ q → A q := hB.2.2.2.2.2.2.2.2.2.2.2
end ZB
/-- the heap as it is now -/
def zD (X : zX) (A : Nat → Prop) (s : State) (fr : Bool) (k : Nat) (h : zH) (n : Nat) (H : Heap) (locs : List Loc) : Prop :=
  va_P (X.2.1, X.2.2.1) zCl (zW X.2.2.2.1 X.2.2.2.2 h n) H ∧ va_D A (zW X.2.2.2.1 X.2.2.2.2 h n) ∧ va_S A s.heap H locs ∧ (fr = true → X.2.2.2.1 n ≤ H.size ∧ X.2.2.2.1 n = s.heap.size + k)
/-- how it ends -/
def zF (X : zX) (A : Nat → Prop) (fr : Bool) (h : zH) (n : Nat) (st t : State) : Prop :=
  va_P (X.2.1, X.2.2.1) zCl (zW X.2.2.2.1 X.2.2.2.2 h n) t.heap ∧ va_D A (zW X.2.2.2.1 X.2.2.2.2 h n) ∧ va_F A st t ∧ (fr = true → X.2.2.2.1 n ≤ t.heap.size)
def zQ (X : zX) (A : Nat → Prop) (fr : Bool) (v : Option Value) (h : zH) (n : Nat) : Array Value → State → Outcome → State → Prop := fun _ st oc t => oc = .returned (v.map (zV X.2.2.2.1)) ∧ zF X A fr h n st t
abbrev zQT : Type := (Nat → Prop) → List Frame → Array Value → State → State → Prop
/-- the method returns v, with the heap h -/
def zRet (X : zX) (mc ms : Nat) (fr : Bool) (v : Option Value) (h : zH) (n : Nat) : zQT := fun A below args s => MQ below (zQ X A fr v h n) args s mc ms A
def zJ (X : zX) (R : Room) (M : zM) (Q : zQT) (fr : Bool) (k j : Nat) (h : zH) (n : Nat) (pc : Nat) (lv : List (Nat × Value)) (st : List Value) : Prop :=
  ∀ (p : Program) (e : Env) (s : State) (m : MethodId) (args : Array Value) (below : List Frame) (meth : Method) (c : Code) (A : Nat → Prop) (H : Heap) (locs : List Loc) (ls : Array Slot),
    zB X M p s m args meth c A → zD X A s fr k h n H locs → lv_has ls M.2.2.1 (lv.map fun q => (q.1, zV X.2.2.2.1 q.2)) →
    W p X.1 e R s m args below meth c H locs k j (Q A below args s) (F0 m pc ls (st.map (zV X.2.2.2.1)))
def zPc (X : zX) (fr : Bool) (av : List Value) (h : zH) (n sz : Nat) : Array Value → State → Prop := va_Pc (av.map (zV X.2.2.2.1)) (fun U => U.heap.size = sz ∧ va_P (X.2.1, X.2.2.1) zCl (zW X.2.2.2.1 X.2.2.2.2 h n) U.heap ∧ va_K (X.2.1, X.2.2.1) zCl (zT X.2.2.2.2) U ∧ va_D (fun _ => True) (zW X.2.2.2.1 X.2.2.2.2 h n) ∧ zS X (va_A (zW X.2.2.2.1 X.2.2.2.2 h n) sz) U U.heap ∧ (fr = true → sz = X.2.2.2.1 n))
/-- a contract: from the heap h, called with av, M returns v and leaves the heap hf -/
def zC (X : zX) (d : Nat) (M : zM) (mc ms : Nat) (fr : Bool) (av : List Value) (h : zH) (n : Nat) (v : Option Value) (hf : zH) (nf : Nat) : Prop :=
  ∀ sz : Nat, Met X.1 M.1 (zws M) (zR d mc ms) (zPc X fr av h n sz) (zQ X (va_A (zW X.2.2.2.1 X.2.2.2.2 h n) sz) fr v hf nf) mc ms (va_A (zW X.2.2.2.1 X.2.2.2.2 h n) sz)
/-! locals -/
def zst (i : Nat) (v : Value) (lv : List (Nat × Value)) : List (Nat × Value) :=
  (lv.filter fun q => !(q.1 == i) && !(q.1 + 1 == i && q.2.category == 2) && !(v.category == 2 && q.1 == i + 1)) ++ [(i, v)]
theorem zlv_map (ad : Nat → Nat) : ∀ (av : List Value) (i : Nat), lv_args i (av.map (zV ad)) = (lv_args i av).map fun q => (q.1, zV ad q.2)
  | [], _ => rfl
  | v :: vs, i => by
    show (i, zV ad v) :: lv_args (if (zV ad v).category = 2 then i + 2 else i + 1) (vs.map (zV ad)) = (i, zV ad v) :: (lv_args (if v.category = 2 then i + 2 else i + 1) vs).map _
    rw [zV_cat, zlv_map ad vs]
theorem zl_mem : ∀ {lv : List (Nat × Value)} {i : Nat} {v : Value}, lv.lookup i = some v → (i, v) ∈ lv
  | [], _, _, h => by simp [List.lookup] at h
  | (a, b) :: r, i, v, h => by
    by_cases hi : i = a
    · subst hi
      rw [List.lookup_cons_self] at h
      cases h
      exact List.mem_cons_self
    · have : (i == a) = false := by simpa using hi
      simp only [List.lookup, this] at h
      exact List.mem_cons_of_mem _ (zl_mem h)
theorem zl_at {ad : Nat → Nat} {ls : Array Slot} {nL : Nat} {lv : List (Nat × Value)} (hL : lv_has ls nL (lv.map fun q => (q.1, zV ad q.2))) {i : Nat} {v : Value} (h : lv.lookup i = some v) : ls[i]? = some (.val (zV ad v)) :=
  hL.2.2 (i, zV ad v) (List.mem_map.mpr ⟨(i, v), zl_mem h, rfl⟩)
theorem zl_ix {ad : Nat → Nat} {lv : List (Nat × Value)} {i : Nat} {v : Value} (h : lv.lookup i = some v) : ∃ k0 : Nat, (lv.map fun q => (q.1, zV ad q.2))[k0]? = some (i, zV ad v) :=
  List.getElem?_of_mem (List.mem_map.mpr ⟨(i, v), zl_mem h, rfl⟩)
theorem zl_st1 {ad : Nat → Nat} {ls : Array Slot} {nL i : Nat} {v : Value} {lv : List (Nat × Value)} (hL : lv_has ls nL ((i, zV ad v) :: (lv.map fun q => (q.1, zV ad q.2)).filter (fun q => !(q.1 == i) && !(q.1 + 1 == i && q.2.category == 2)))) : lv_has ls nL ((zst i v lv).map fun q => (q.1, zV ad q.2)) := by
  refine ⟨hL.1, hL.2.1, fun q hq => hL.2.2 q ?_⟩
  obtain ⟨q0, hq0, rfl⟩ := List.mem_map.mp hq
  rcases List.mem_append.mp hq0 with h | h
  · obtain ⟨h1, h2⟩ := List.mem_filter.mp h
    refine List.mem_cons_of_mem _ (List.mem_filter.mpr ⟨List.mem_map.mpr ⟨q0, h1, rfl⟩, ?_⟩)
    simp only [zV_cat]
    simp only [Bool.and_eq_true] at h2 ⊢
    exact h2.1
  · rw [List.mem_singleton.mp h]
    exact List.mem_cons_self
theorem zl_st2 {ad : Nat → Nat} {ls : Array Slot} {nL i : Nat} {v : Value} {lv : List (Nat × Value)} (hc : v.category = 2) (hL : lv_has ls nL ((i, zV ad v) :: (lv.map fun q => (q.1, zV ad q.2)).filter (fun q => !(q.1 == i) && (!(q.1 == i + 1) && !(q.1 + 1 == i && q.2.category == 2))))) : lv_has ls nL ((zst i v lv).map fun q => (q.1, zV ad q.2)) := by
  refine ⟨hL.1, hL.2.1, fun q hq => hL.2.2 q ?_⟩
  obtain ⟨q0, hq0, rfl⟩ := List.mem_map.mp hq
  rcases List.mem_append.mp hq0 with h | h
  · obtain ⟨h1, h2⟩ := List.mem_filter.mp h
    refine List.mem_cons_of_mem _ (List.mem_filter.mpr ⟨List.mem_map.mpr ⟨q0, h1, rfl⟩, ?_⟩)
    simp only [zV_cat]
    simp only [Bool.and_eq_true, hc] at h2 ⊢
    exact ⟨h2.1.1, by simpa using h2.2, h2.1.2⟩
  · rw [List.mem_singleton.mp h]
    exact List.mem_cons_self
/-! an index in range -/
def zin (i : Int32) (t len : Nat) : Prop := i = nI t ∧ t < len ∧ len < 2 ^ 31
theorem zin.cl {i : Int32} {t len : Nat} (h : zin i t len) : i.toNatClampNeg = t := by
  rw [h.1, nI_clamp (Nat.lt_trans h.2.1 h.2.2)]
theorem zin.vp {i : Int32} {t len : Nat} (h : zin i t len) : vp_in i len := by
  rw [h.1]; exact vp_in_nI h.2.1 h.2.2
/-! the heap behind a write -/
theorem zS_self {A : Nat → Prop} {H0 H : Heap} {locs : List Loc} (h : va_S A H0 H locs) : va_S A H H locs := ⟨Nat.le_refl _, fun _ _ _ => rfl, h.2.2⟩
theorem zS_tr {A : Nat → Prop} {H0 H H1 : Heap} {locs locs1 : List Loc} (h : va_S A H0 H locs) (h1 : va_S A H H1 locs1) : va_S A H0 H1 locs1 :=
  ⟨Nat.le_trans h.1 h1.1, fun q hq hA => (h1.2.1 q (Nat.lt_of_lt_of_le hq h.1) hA).trans (h.2.1 q hq hA), h1.2.2⟩
theorem zD_put {X : zX} {A : Nat → Prop} {s : State} {fr : Bool} {k : Nat} {h : zH} {n a : Nat} {H H1 : Heap} {locs locs1 : List Loc} {e : va_E} (ha : a < n) (hDD : zD X A s fr k h n H locs)
    (hP : va_P (X.2.1, X.2.2.1) zCl ((zW X.2.2.2.1 X.2.2.2.2 h n).set a (X.2.2.2.1 a, zE X.2.2.2.1 X.2.2.2.2 e)) H1) (hD : va_D A ((zW X.2.2.2.1 X.2.2.2.2 h n).set a (X.2.2.2.1 a, zE X.2.2.2.1 X.2.2.2.2 e))) (hS : va_S A H H1 locs1) : zD X A s fr k (va_up h a e) n H1 locs1 := by
  rw [zW_set ha] at hP hD
  exact ⟨hP, hD, zS_tr hDD.2.2.1 hS, fun hf => ⟨Nat.le_trans (hDD.2.2.2 hf).1 hS.1, (hDD.2.2.2 hf).2⟩⟩
theorem zA_len (ad : Nat → Nat) (x : vp_A) : (zA ad x).1 = x.1 := by
  obtain ⟨n, f | f | f | f | f⟩ := x <;> rfl
/-- a field that an instruction names: its class and place -/
def zFd (own : String) (ix ci kf : Nat) : Prop := ∃ (C : String) (T : u_T) (N : Nat), zCl[ci]? = some (C, T, N) ∧ kf < N ∧ (∀ w ∈ u_ws C T N, w ∈ zWA) ∧ Cond.fieldLink own ix (T kf).1 (T kf).2.1 (T kf).2.2.1 ∈ zWA
def zFp (ci kf : Nat) (ty : FieldType) (fin : Bool) : Prop := ∀ (C : String) (T : u_T) (N : Nat), zCl[ci]? = some (C, T, N) → ∃ ty0 : Nat → FieldType, (∀ k, k < N → parseFieldDescriptor (T k).2.2.1 = some (ty0 k)) ∧ (∀ a, a < N → ∀ b, b < N → a ≠ b → (T a).2.1 ≠ (T b).2.1) ∧ (T kf).2.2.2 = fin ∧ parseFieldDescriptor (T kf).2.2.1 = some ty
