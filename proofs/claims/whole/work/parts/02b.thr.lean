/-! statics of java.lang.Throwable, words of another kind, strings: what a throw needs, as it is kept over the run -/
def zLs (C n d : String) (A : Nat → Prop) (U : State) (H : Heap) : Prop := ∃ (c : ClassId) (k : Class) (i : Nat) (f : Field) (a : Nat) (cell : Cell), U.vm.findClass C = some c ∧ U.fieldFound? C n d = some (c, k, i, f) ∧ f.isStatic = true ∧ k.statics = some a ∧ H[a]? = some cell ∧ cell.vm.isStatics = true ∧ cell.cls = c ∧ f.slot < cell.slots.size ∧ k.staticTypes[f.slot]? = some f.type ∧ ¬ A a
theorem zLs_move {C n d : String} {A A1 : Nat → Prop} {u U : State} {H H1 : Heap} (hvm : u.vm.Alike U.vm) (hq : ∀ a : Nat, a < H.size → ¬ A a → H1[a]? = H[a]?) (hA : ∀ q, A1 q → A q) (h : zLs C n d A u H) : zLs C n d A1 U H1 := by
  obtain ⟨c, k, i, f, a, cell, h0, h1, h2, h3, h4, h5, h6, h7, h8, h9⟩ := h
  obtain ⟨k', hi', he⟩ := State.fieldFound?_setVm hvm h1
  exact ⟨c, k', i, f, a, cell, by rw [hvm.findClass]; exact h0, hi', h2, by rw [he]; exact h3, by rw [hq a (Array.getElem?_eq_some_iff.mp h4).1 h9]; exact h4, h5, h6, h7, by rw [he]; exact h8, fun z => h9 (hA a z)⟩
theorem zLs_word {C n d : String} {A : Nat → Prop} {s : State} {args : Array Value} (h : zLs C n d A s s.heap) : (Cond.laysStatic C n d).before args s = true := by
  obtain ⟨c, k, i, f, a, cell, h0, h1, h2, h3, h4, h5, h6, h7, h8, -⟩ := h
  simp [Cond.before, Cond.holds, Cond.value, h0, h1, h2, h3, h4, h5, h6, h7, h8]
theorem zZq_word {C n d : String} {A : Nat → Prop} {s : State} {args : Array Value} (h : va_Zq C n d A s s.heap) : (Cond.isRef (.static C n d)).before args s = true := by
  rcases h with h | ⟨t, h⟩
  · obtain ⟨cf, kf, fi, f, a, cell, h1, h2, h3, h4, h5, h6, h7, -⟩ := h
    simp [Cond.before, Cond.holds, Cond.value, Term.eval, State.fieldNamed?, h1, h2, h4, h5, h6, h7]
  · obtain ⟨cf, kf, fi, f, a, cell, h1, h2, h3, h4, h5, h6, h7, -⟩ := h
    simp [Cond.before, Cond.holds, Cond.value, Term.eval, State.fieldNamed?, h1, h2, h4, h5, h6, h7]
def zFw (w : Cond) : Bool := w.faceAtom && w.onTables
/-- the words that no first use changes, of the kind 'declares', 'castable' -/
def zWF : List Cond := tables_1.filter zFw
theorem zWF_move {u U : State} (hvm : u.vm.Alike U.vm) (h : ∀ w ∈ zWF, va_Nw w u) : ∀ w ∈ zWF, va_Nw w U := by
  intro w hw
  have h1 := (List.mem_filter.mp hw).2
  simp only [zFw, Bool.and_eq_true] at h1
  exact va_tabs h1.2 (u := u.setVm U.vm) rfl (Cond.faceAtom_setVm hvm w h1.1 (h w hw))
def zStr : List (String × Nat × String) := [("TableMachine", 49, "a table has 1 to 4 columns"), ("TableMachine", 62, "there are 3 tables"), ("TableMachine", 221, "there is no such table"), ("TableMachine", 87, "there are 90 rows"), ("TableMachine", 119, "there is no such key"), ("TableMachine", 226, "there is no such table or column"), ("TableMachine", 232, "there is no such row"), ("TableMachine", 146, "there is no such instruction"), ("TableMachine", 151, "there are 60 instructions"), ("TableMachine", 163, "there is no such instruction or part of it"), ("TableMachine", 170, "fuel is 0 to 4000"), ("TableMachine", 175, "an instruction names a table or a number that there is not"), ("TableMachine", 234, "there is no such row or value"), ("TableMachine", 215, "there is no question, or it has no outputs")]
def zTn2 : String := "java/lang/Throwable"
def zSt2 : String := "[Ljava/lang/StackTraceElement;"
def zLi2 : String := "Ljava/util/List;"
/-- an object of E is none of T -/
def zNc (E T : String) (U : State) : Prop := ∃ a b : ClassId, U.vm.findClass E = some a ∧ U.vm.findClass T = some b ∧ U.vm.assignable a b = false
theorem zNc.moved {E T : String} {u U : State} (hvm : u.vm.Alike U.vm) (h : zNc E T u) : zNc E T U := by
  obtain ⟨a, b, h1, h2, h3⟩ := h
  exact ⟨a, b, by rw [hvm.findClass]; exact h1, by rw [hvm.findClass]; exact h2, by rw [hvm.assignable]; exact h3⟩
theorem zNc.of {E T : String} {A : Array Value} {U : State} (h : (Cond.not (.castable E T)).before A U = true) : zNc E T U := by
  have hv := Cond.holds_not_iff.mp h
  cases h1 : U.vm.findClass E with
  | none => simp [Cond.value, h1] at hv
  | some a =>
    cases h2 : U.vm.findClass T with
    | none => simp [Cond.value, h1, h2] at hv
    | some b =>
      simp only [Cond.value, h1, h2] at hv
      exact ⟨a, b, h1, h2, Option.some.inj hv⟩
def zThb (l : Launch) (A : Nat → Prop) (U : State) (H : Heap) : Prop :=
  (l.stackTraces = false ∧ zNc "java/lang/IllegalStateException" "java/lang/IllegalArgumentException" U ∧ zNc "java/util/NoSuchElementException" "java/lang/IllegalArgumentException" U) ∧ (∀ w ∈ zWF, va_Nw w U) ∧ (∀ q ∈ zStr, ∃ a : Nat, vk_R q.1 q.2.1 q.2.2 a U) ∧
  va_Zq zTn2 "UNASSIGNED_STACK" zSt2 A U H ∧ va_Zq zTn2 "SUPPRESSED_SENTINEL" zLi2 A U H ∧ zLs zTn2 "UNASSIGNED_STACK" zSt2 A U H ∧ zLs zTn2 "SUPPRESSED_SENTINEL" zLi2 A U H
theorem zThb_same {l : Launch} {A : Nat → Prop} {U U' : State} {H : Heap} (hv : U.vm = U'.vm) (h : zThb l A U H) : zThb l A U' H := by
  obtain ⟨h0, h1, h2, h3, h4, h5, h6⟩ := h
  have ha : U.vm.Alike U'.vm := by rw [hv]; exact Vm.Alike.refl _
  exact ⟨⟨h0.1, h0.2.1.moved ha, h0.2.2.moved ha⟩, zWF_move ha h1, fun q hq => by obtain ⟨a, h⟩ := h2 q hq; exact ⟨a, vk_R.same hv.symm h⟩, va_Zq.moved ha h3, va_Zq.moved ha h4, zLs_move ha (fun _ _ _ => rfl) (fun _ z => z) h5, zLs_move ha (fun _ _ _ => rfl) (fun _ z => z) h6⟩
theorem zThb_move {l : Launch} {A A1 : Nat → Prop} {s U : State} {H : Heap} {locs : List Loc} (hW : s.WarmedH U.vm) (hA : ∀ q, A1 q → A q) (hS : va_S A s.heap H locs) (h : zThb l A s s.heap) : zThb l A1 U H := by
  obtain ⟨h0, h1, h2, h3, h4, h5, h6⟩ := h
  exact ⟨⟨h0.1, h0.2.1.moved hW.alike, h0.2.2.moved hW.alike⟩, zWF_move hW.alike h1, fun q hq => by obtain ⟨a, h⟩ := h2 q hq; exact ⟨a, vk_R.warm hW h⟩, va_Zq.narrow (va_Zq.moved hW.alike (va_Zq.kept h3 hS.2.1)) hA, va_Zq.narrow (va_Zq.moved hW.alike (va_Zq.kept h4 hS.2.1)) hA, zLs_move hW.alike hS.2.1 hA h5, zLs_move hW.alike hS.2.1 hA h6⟩
