/-! from the entry of the law -/
theorem zLs_of {C n d : String} {A : Nat → Prop} {s : State} {args : Array Value} (h : (Cond.laysStatic C n d).before args s = true) (hA : ∀ a : Nat, a < s.heap.size → ¬ A a) : zLs C n d A s s.heap := by
  simp only [Cond.before, Cond.holds, Cond.value] at h
  cases h1 : s.vm.findClass C with
  | none => simp [h1] at h
  | some c =>
    cases h2 : s.fieldFound? C n d with
    | none => simp [h1, h2] at h
    | some q =>
      obtain ⟨c1, k, i, f⟩ := q
      cases h3 : k.statics with
      | none => simp [h1, h2, h3] at h
      | some a =>
        cases h4 : s.heap[a]? with
        | none => simp [h1, h2, h3, h4] at h
        | some cell =>
          simp [h1, h2, h3, h4] at h
          obtain ⟨⟨⟨⟨⟨q1, q2⟩, q3⟩, q4⟩, q5⟩, q6⟩ := h
          subst q2
          exact ⟨c, k, i, f, a, cell, h1, h2, q1, h3, h4, q3, q4, q5, q6, hA a (Array.getElem?_eq_some_iff.mp h4).1⟩
theorem zStr_of {own tx : String} {k : Nat} {s : State} {args : Array Value} (h : (Cond.stringRef own k tx).before args s = true) : ∃ a : Nat, vk_R own k tx a s := by
  have h0 := h
  simp only [Cond.before, Cond.holds, Cond.value] at h
  cases h1 : s.vm.findClass own with
  | none => simp [h1] at h
  | some c =>
    simp only [h1, Option.map_some, beq_iff_eq, Option.some.injEq, Bool.and_eq_true] at h
    cases h2 : s.resolvedAt? own k with
    | none => simp [h2] at h
    | some r =>
      cases r with
      | string a =>
        refine ⟨a, vk_R.of h0 ?_⟩
        simp only [State.resolvedAt?, h1] at h2
        simp only [Term.eval, h1]
        cases h3 : s.vm.classes[c]? with
        | none => simp [h3] at h2
        | some kc =>
          simp [h3] at h2 ⊢
          simp [h2]
      | _ => simp [h2] at h
theorem zArr_of {ty : FieldType} {s : State} {args : Array Value} (h : (Cond.arrayClass ty).before args s = true) : ∃ cA : ClassId, s.vm.findClass ("[" ++ ty.toString) = some cA ∧ ArrOfT s cA ty := by
  simp only [Cond.before, Cond.holds, Cond.value] at h
  cases h1 : s.vm.findClass ("[" ++ ty.toString) with
  | none => simp [h1] at h
  | some c =>
    cases h2 : s.vm.classes[c]? with
    | none => simp [h1, h2] at h
    | some k =>
      cases h3 : k.kind with
      | array comp t =>
        simp [h1, h2, h3] at h
        subst h
        exact ⟨c, rfl, fun n z => ⟨fun k h => (by cases h), k, h2, comp, h3⟩⟩
      | _ => simp [h1, h2, h3] at h
theorem zAo_of {C : String} {s : State} (h : va_AO C s) : ∃ cA : ClassId, ArrOfT s cA (.object C) ∧ va_RA s cA (.object C) := by
  obtain ⟨comp, c, k, h1, h2, h3, h4, h5⟩ := Cond.arrayOver_spec h
  exact ⟨c, fun n z => ⟨fun k h => (by cases h), k, h3, comp, h4⟩, k, comp, h3, h4, h1, h5⟩
def zAd (hs kd b : Nat) : Nat → Nat := fun i => if i = 900 then kd else if i = 901 then b else hs + i
theorem zAd_s (hs kd b : Nat) : ∀ i, i < 200 → zAd hs kd b (i + 1) = zAd hs kd b i + 1 := fun i hi => by
  simp only [zAd]
  rw [if_neg (by omega), if_neg (by omega), if_neg (by omega), if_neg (by omega)]; rfl
theorem zNest_in : ∀ q ∈ zNest, Cond.methodLinkNest q.1 q.2.1 q.2.2 "TableMachine" ∈ tables_1 := List.forall_mem_cons.mpr ⟨List.mem_of_getElem? (i := 59) (by decide +kernel), List.forall_mem_cons.mpr ⟨List.mem_of_getElem? (i := 103) (by decide +kernel), List.forall_mem_cons.mpr ⟨List.mem_of_getElem? (i := 119) (by decide +kernel), List.forall_mem_cons.mpr ⟨List.mem_of_getElem? (i := 144) (by decide +kernel), List.forall_mem_cons.mpr ⟨List.mem_of_getElem? (i := 187) (by decide +kernel), List.forall_mem_cons.mpr ⟨List.mem_of_getElem? (i := 276) (by decide +kernel), List.forall_mem_cons.mpr ⟨List.mem_of_getElem? (i := 301) (by decide +kernel), List.forall_mem_cons.mpr ⟨List.mem_of_getElem? (i := 553) (by decide +kernel), List.forall_mem_cons.mpr ⟨List.mem_of_getElem? (i := 562) (by decide +kernel), List.forall_mem_cons.mpr ⟨List.mem_of_getElem? (i := 728) (by decide +kernel), fun _ h => nomatch h⟩⟩⟩⟩⟩⟩⟩⟩⟩⟩
theorem zStr_in : ∀ q ∈ zStr, Cond.stringRef q.1 q.2.1 q.2.2 ∈ tables_1 := List.forall_mem_cons.mpr ⟨List.mem_of_getElem? (i := 378) (by decide +kernel), List.forall_mem_cons.mpr ⟨List.mem_of_getElem? (i := 414) (by decide +kernel), List.forall_mem_cons.mpr ⟨List.mem_of_getElem? (i := 436) (by decide +kernel), List.forall_mem_cons.mpr ⟨List.mem_of_getElem? (i := 441) (by decide +kernel), List.forall_mem_cons.mpr ⟨List.mem_of_getElem? (i := 500) (by decide +kernel), List.forall_mem_cons.mpr ⟨List.mem_of_getElem? (i := 522) (by decide +kernel), List.forall_mem_cons.mpr ⟨List.mem_of_getElem? (i := 527) (by decide +kernel), List.forall_mem_cons.mpr ⟨List.mem_of_getElem? (i := 563) (by decide +kernel), List.forall_mem_cons.mpr ⟨List.mem_of_getElem? (i := 564) (by decide +kernel), List.forall_mem_cons.mpr ⟨List.mem_of_getElem? (i := 589) (by decide +kernel), List.forall_mem_cons.mpr ⟨List.mem_of_getElem? (i := 607) (by decide +kernel), List.forall_mem_cons.mpr ⟨List.mem_of_getElem? (i := 614) (by decide +kernel), List.forall_mem_cons.mpr ⟨List.mem_of_getElem? (i := 733) (by decide +kernel), List.forall_mem_cons.mpr ⟨List.mem_of_getElem? (i := 748) (by decide +kernel), fun _ h => nomatch h⟩⟩⟩⟩⟩⟩⟩⟩⟩⟩⟩⟩⟩⟩
theorem zKin_in : ∀ j, j < 66 → Cond.eq (.elem (.static "TableMachine$Op" "KINDS" "[I") (.int (Int32.ofNat j))) (.int (zKinds.getD j 0)) ∈ flatC (Jvm.Cond.and given_1 narrow_1) := by decide +kernel
theorem zKn_ex {s : State} {args : Array Value} (htab : ∀ w ∈ tables_1, w.before args s = true) (hwA : ∀ w ∈ zWA, w.before args s = true) : ∃ F : Nat → ClassId × (Nat → Nat), ∀ (c : Nat) (q : vw_C), zCl[c]? = some q → u_Kn s q.1 q.2.1 q.2.2 (F c).1 (F c).2 := by
  have hex : ∀ c : Nat, ∃ p : ClassId × (Nat → Nat), ∀ q : vw_C, zCl[c]? = some q → u_Kn s q.1 q.2.1 q.2.2 p.1 p.2 := by
    intro c
    have h9 : c = 0 ∨ c = 1 ∨ c = 2 ∨ c = 3 ∨ c = 4 ∨ c = 5 ∨ c = 6 ∨ c = 7 ∨ c = 8 ∨ c = 9 ∨ 10 ≤ c := by omega
    rcases h9 with rfl | rfl | rfl | rfl | rfl | rfl | rfl | rfl | rfl | rfl | h9
    · obtain ⟨cC, iS, hk⟩ := u_known (n := 6) hwA zu0 (htab _ (List.mem_of_getElem? (i := 22) (by decide +kernel)))
      exact ⟨(cC, iS), fun q hq => by cases hq; exact hk⟩
    · obtain ⟨cC, iS, hk⟩ := u_known (n := 6) hwA zu1 (htab _ (List.mem_of_getElem? (i := 30) (by decide +kernel)))
      exact ⟨(cC, iS), fun q hq => by cases hq; exact hk⟩
    · obtain ⟨cC, iS, hk⟩ := u_known (n := 6) hwA zu2 (htab _ (List.mem_of_getElem? (i := 36) (by decide +kernel)))
      exact ⟨(cC, iS), fun q hq => by cases hq; exact hk⟩
    · obtain ⟨cC, iS, hk⟩ := u_known (n := 3) hwA zu3 (htab _ (List.mem_of_getElem? (i := 58) (by decide +kernel)))
      exact ⟨(cC, iS), fun q hq => by cases hq; exact hk⟩
    · obtain ⟨cC, iS, hk⟩ := u_known (n := 2) hwA zu4 (htab _ (List.mem_of_getElem? (i := 44) (by decide +kernel)))
      exact ⟨(cC, iS), fun q hq => by cases hq; exact hk⟩
    · obtain ⟨cC, iS, hk⟩ := u_known (n := 3) hwA zu5 (htab _ (List.mem_of_getElem? (i := 143) (by decide +kernel)))
      exact ⟨(cC, iS), fun q hq => by cases hq; exact hk⟩
    · obtain ⟨cC, iS, hk⟩ := u_known (n := 2) hwA zu6 (htab _ (List.mem_of_getElem? (i := 102) (by decide +kernel)))
      exact ⟨(cC, iS), fun q hq => by cases hq; exact hk⟩
    · obtain ⟨cC, iS, hk⟩ := u_known (n := 3) hwA zu7 (htab _ (List.mem_of_getElem? (i := 118) (by decide +kernel)))
      exact ⟨(cC, iS), fun q hq => by cases hq; exact hk⟩
    · obtain ⟨cC, iS, hk⟩ := u_known (n := 13) hwA zu8 (htab _ (List.mem_of_getElem? (i := 186) (by decide +kernel)))
      exact ⟨(cC, iS), fun q hq => by cases hq; exact hk⟩
    · obtain ⟨cC, iS, hk⟩ := u_known (n := 32) hwA zu9 (htab _ (List.mem_of_getElem? (i := 794) (by decide +kernel)))
      exact ⟨(cC, iS), fun q hq => by cases hq; exact hk⟩
    · exact ⟨(0, fun _ => 0), fun q hq => by rw [List.getElem?_eq_none (by simpa using h9)] at hq; cases hq⟩
  exact ⟨fun c => Classical.choose (hex c), fun c => Classical.choose_spec (hex c)⟩
theorem zS_start {l : Launch} {s : State} {b : Nat} {F : Nat → ClassId × (Nat → Nat)} {ca : Nat → ClassId} (hst : l.stackTraces = false) (htab : ∀ w ∈ tables_1, w.before #[Value.ref b] s = true) (hgv : (Jvm.Cond.and given_1 narrow_1).before #[Value.ref b] s = true) : ∃ kd, zS (l, fun c => (F c).1, fun c => (F c).2, zAd s.heap.size kd b, ca) (fun q => s.heap.size ≤ q) s s.heap := by
  have hA : ∀ a : Nat, a < s.heap.size → ¬ (s.heap.size ≤ a) := fun a h => by omega
  have hfl := flat_of_before _ hgv
  obtain ⟨t, ht, hT⟩ := va_Tof (args := #[Value.ref b]) (s := s) (tm := .static "TableMachine$Op" "KINDS" "[I") (ty := .int) (N := 66) (f := fun j => .int (zKinds.getD j 0)) (A := fun q => s.heap.size ≤ q) (by decide) (hfl _ (by decide +kernel)) (va_eqt (hfl _ (by decide +kernel))) (fun j hj => va_eqt (hfl _ (zKin_in j hj))) hA
  have hZ := va_Zref (A := fun q => s.heap.size ≤ q) (htab _ (List.mem_of_getElem? (i := 558) (by decide +kernel))) (htab _ (List.mem_of_getElem? (i := 17) (by decide +kernel))) ht hA
  refine ⟨t, ⟨fun q hq => va_Nw.of rfl (htab _ (zNest_in q hq)), va_AO.of (htab _ (List.mem_of_getElem? (i := 42) (by decide +kernel))), va_AO.of (htab _ (List.mem_of_getElem? (i := 142) (by decide +kernel)))⟩, hZ, hT, zAd_s _ _ _, ⟨hst, zNc.of (hfl _ (by decide +kernel)), zNc.of (hfl _ (by decide +kernel))⟩, fun w hw => ?_, fun q hq => zStr_of (htab _ (zStr_in q hq)), va_Zqof (htab _ (List.mem_of_getElem? (i := 363) (by decide +kernel))) (htab _ (List.mem_of_getElem? (i := 11) (by decide +kernel))) (hfl _ (by decide +kernel)) hA, va_Zqof (htab _ (List.mem_of_getElem? (i := 365) (by decide +kernel))) (htab _ (List.mem_of_getElem? (i := 11) (by decide +kernel))) (hfl _ (by decide +kernel)) hA, zLs_of (htab _ (List.mem_of_getElem? (i := 363) (by decide +kernel))) hA, zLs_of (htab _ (List.mem_of_getElem? (i := 365) (by decide +kernel))) hA⟩
  have h1 := List.mem_filter.mp hw
  have h2 := h1.2
  simp only [zFw, Bool.and_eq_true] at h2
  exact va_Nw.of h2.2 (htab w h1.1)
def lw_At (p : Program) (l : Launch) (s : State) (m : MethodId) (meth : Method) (c : Code) (b L : Nat) (xs : Nat → Int32) : Prop :=
  p.tables.exec = Jvm.exec ∧ c.code = code ∧ meth.sig.returnType = ret ∧ c.maxLocals = 8 ∧ s.vm.findClass R_law = some m.cls ∧ (∀ w ∈ lw_tbl, w.before #[Value.ref b] s = true) ∧ va_X b L xs s s.heap ∧ b < s.heap.size ∧ meth.locks = false ∧ (Jvm.Cond.and given_1 narrow_1).before #[Value.ref b] s = true ∧ l.stackTraces = false ∧ s.methodNamed? x = some m ∧ meth.name = "law"
set_option maxRecDepth 100000 in
set_option maxHeartbeats 4000000 in
theorem whole_start {p : Program} {e : Env} {s : State} {m : MethodId} {below : List Frame} {meth : Method} {c : Code} (l : Launch) {b L : Nat} {xs : Nat → Int32} (hL : L ≤ 2560) (C0 : lw_At p l s m meth c b L xs) : W p l e room_1 s m #[Value.ref b] below meth c s.heap [] 0 0 (lw_Z below #[Value.ref b] s) (entryFrame m ([Value.ref b] : List Value).toArray 8) := by
  obtain ⟨h1, h2, h3, h4, h5, h6, h7, h8, h9, h10, h11, h12, h13⟩ := C0
  have htab : ∀ w ∈ tables_1, w.before #[Value.ref b] s = true := fun w hw => h6 w (List.mem_append_right _ hw)
  have hwA : ∀ w ∈ zWA, w.before #[Value.ref b] s = true := fun w hw => h6 w (List.mem_filter.mp hw).1
  obtain ⟨F, hF⟩ := zKn_ex htab hwA
  obtain ⟨ci, ci1, ci2⟩ := zArr_of (ty := .int) (htab _ (List.mem_of_getElem? (i := 77) (by decide +kernel)))
  obtain ⟨cl, cl1, cl2⟩ := zArr_of (ty := .long) (htab _ (List.mem_of_getElem? (i := 56) (by decide +kernel)))
  obtain ⟨cz, cz1, cz2⟩ := zArr_of (ty := .boolean) (htab _ (List.mem_of_getElem? (i := 57) (by decide +kernel)))
  obtain ⟨ct, ct1, ct2⟩ := zAo_of (C := "TableMachine$Table") (va_AO.of (htab _ (List.mem_of_getElem? (i := 42) (by decide +kernel))))
  obtain ⟨cu, cu1, cu2⟩ := zAo_of (C := "TableMachine$Cursor") (va_AO.of (htab _ (List.mem_of_getElem? (i := 142) (by decide +kernel))))
  obtain ⟨kd, hS⟩ := zS_start (F := F) (ca := fun i => if i = 0 then ci else if i = 1 then cl else if i = 2 then cz else if i = 3 then ct else cu) h11 htab h10
  generalize hX : ((l, fun c => (F c).1, fun c => (F c).2, zAd s.heap.size kd b, fun i => if i = 0 then ci else if i = 1 then cl else if i = 2 then cz else if i = 3 then ct else cu) : zX) = X at hS
  have had : X.2.2.2.1 = zAd s.heap.size kd b := by rw [← hX]
  have hb : X.2.2.2.1 901 = b := by rw [had]; rfl
  have hK : va_K (X.2.1, X.2.2.1) zCl (zT X.2.2.2.2) s := by
    rw [← hX]
    refine ⟨fun c q hq => hF c q hq, fun k q hq => ?_⟩
    have h9 : k = 0 ∨ k = 1 ∨ k = 2 ∨ k = 3 ∨ k = 4 ∨ 5 ≤ k := by omega
    rcases h9 with rfl | rfl | rfl | rfl | rfl | h9
    · cases hq; exact ⟨ci2, ci1⟩
    · cases hq; exact ⟨cl2, cl1⟩
    · cases hq; exact ⟨cz2, cz1⟩
    · cases hq; exact ⟨ct1, ct2⟩
    · cases hq; exact ⟨cu1, cu2⟩
    · rw [List.getElem?_eq_none (by simpa [zT] using h9)] at hq; cases hq
  have hl := lv_entry (([.ref 901] : List Value).map (zV X.2.2.2.1)) (n := 8) (by rw [zlg_len]; decide)
  rw [zlv_map] at hl
  have hJ := law_start X hL (xs := xs) (fun _ => .inr (0, []))
  have hl1 : X.1 = l := by rw [← hX]
  have hW := hJ p e s m #[Value.ref b] below meth c (fun q => s.heap.size ≤ q) s.heap [] _ ⟨h1, h2, h4, h3, h9, hwA, h5, h13, ⟨fun h => absurd rfl h, h12⟩, hK, hS, fun q h => h⟩ ⟨fun k q hq => (by cases hq), ⟨fun i j p q hp => (by cases hp), fun k q hq => (by cases hq)⟩, va_S.rf, fun _ => ⟨by rw [had]; exact Nat.le_refl _, by rw [had]; rfl⟩⟩ hl
  rw [hl1] at hW
  rw [lg_entry_eq]
  have e1 : ([.ref 901] : List Value).map (zV X.2.2.2.1) = [Value.ref b] := by rw [← hb]; rfl
  rw [e1] at hW
  intro T hT X0
  obtain ⟨t, a1, b1⟩ := hW T hT X0
  exact ⟨t, a1, b1 ⟨by rw [hb]; exact h7, by rw [hb]; exact h8, by rw [hb]; omega, by rw [hb], fun q h => h⟩⟩
