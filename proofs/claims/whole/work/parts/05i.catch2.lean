/-- at pc of M, an E that comes out of a call goes to the handler at hp -/
def zCat (M : zM) (E : String) (pc hp : Nat) : Prop := ∀ (X : zX) (p : Program) (e : Env) (R : Room) (s : State) (m : MethodId) (args : Array Value) (below : List Frame) (meth : Method) (c : Code) (A : Nat → Prop) (T : State) (locs : List Loc) (k j : Nat) (ls : Array Slot) (st : List Value) (q : Addr) (ce : Cell),
  zB X M p s m args meth c A → Stand p X.1 e R s m args below meth c T locs k j → T.heap[q]? = some ce → ce.vm = .none → s.vm.findClass E = some ce.cls →
  ∃ vm' : Vm, Stand p X.1 e R s m args below meth c (T.setVm vm') locs k j ∧ ∀ target, Steps p.tables e below ((T.setVm vm').setTop (F0 m hp ls [.ref q])) target → Steps p.tables e below ((T.setTop (F0 m pc ls st)).pushFrame (.throwing q)) target
theorem zTabOf {X : zX} {M : zM} {p : Program} {e : Env} {R : Room} {s : State} {m : MethodId} {args : Array Value} {below : List Frame} {meth : Method} {c : Code} {A : Nat → Prop} {T : State} {locs : List Loc} {k j : Nat} {hh : List (Nat × Nat × Nat × Nat)} (hB : zB X M p s m args meth c A) (Y : Stand p X.1 e R s m args below meth c T locs k j) (hcw : Cond.codeWith M.1 M.2.1 M.2.2.1 M.2.2.2 hh ∈ zWA) : c.exceptionTable.toList.map zRow = hh := by
  obtain ⟨m9, meth9, c9, n1, n2, n3, -, -, n4, -⟩ := Cond.codeWith_spec (hB.word hcw)
  cases Option.some.inj (hB.named.symm.trans n1)
  cases Option.some.inj (Y.method.symm.trans n2)
  cases Option.some.inj (Y.code.symm.trans n3)
  exact n4
theorem zCat1 {M : zM} {E : String} {pc hp a0 a1 ct : Nat} {hr : List (Nat × Nat × Nat × Nat)} (hcw : Cond.codeWith M.1 M.2.1 M.2.2.1 M.2.2.2 ((a0, a1, hp, ct) :: hr) ∈ zWA) (hlk : Cond.classLink M.1.cls ct E ∈ zWA) (h : a0 ≤ pc ∧ pc < a1 ∧ ct ≠ 0) : zCat M E pc hp := by
  intro X p e R s m args below meth c A T locs k j ls st q ce hB Y h1 h2 h3
  exact zCaught1 Y hB.own (zTabOf hB Y hcw) h.1 h.2.1 h.2.2 (hB.word hlk) h1 h2 h3
theorem zCat2 {M : zM} {E : String} {pc hp a0 a1 ct b0 b1 hb cb : Nat} {hr : List (Nat × Nat × Nat × Nat)} (hE : E = "java/lang/IllegalStateException" ∨ E = "java/util/NoSuchElementException") (hcw : Cond.codeWith M.1 M.2.1 M.2.2.1 M.2.2.2 ((b0, b1, hb, cb) :: (a0, a1, hp, ct) :: hr) ∈ zWA) (hlb : Cond.classLink M.1.cls cb "java/lang/IllegalArgumentException" ∈ zWA) (hlk : Cond.classLink M.1.cls ct E ∈ zWA) (g : b0 ≤ pc ∧ pc < b1 ∧ cb ≠ 0) (h : a0 ≤ pc ∧ pc < a1 ∧ ct ≠ 0) : zCat M E pc hp := by
  intro X p e R s m args below meth c A T locs k j ls st q ce hB Y h1 h2 h3
  have hn : zNc E "java/lang/IllegalArgumentException" s := by
    obtain ⟨-, n1, n2⟩ := hB.stat.2.2.2.2.1
    rcases hE with rfl | rfl
    · exact n1
    · exact n2
  exact zCaught2 Y hB.own (zTabOf hB Y hcw) g.1 g.2.1 g.2.2 h.1 h.2.1 h.2.2 (hB.word hlb) hn (hB.word hlk) h1 h2 h3
section ZTD
variable {X : zX} {R : Room} {M M' : zM} {Q : zQT} {h : zH} {n pc k j d' ix na b ci N hp len i : Nat} {lv : List (Nat × Value)} {st stk av fs : List Value} {Tt : u_T} {E : String}
/-- the callee throws, the caller catches it and puts it by -/
theorem z_callC (hd : decode M.2.1 pc = .ok (.invokevirtual ix, 3)) (g : zGv M.1.cls ix M' na) (hC : zTC X d' M' 1 6 (.ref b :: av) h n E) (hb : b < n) (hc : h b = .inr (ci, fs)) (hci : zCl[ci]? = some (M'.1.cls, Tt, N)) (hstk : av.reverse ++ .ref b :: st = stk) (hR : zRm R d' 1 6 k j) (hna : av.length = na) (hsum : (st.map fun v => v.category).sum ≤ 8)
    (hcat : zCat M E pc hp) (hda : (len = 2 ∧ decode M.2.1 hp = .ok (.astore i, 2)) ∨ (len = 1 ∧ ∃ f : Fin 4, (f : Nat) = i ∧ decode M.2.1 hp = .ok (.astore_n f, 1))) (hi : i < M.2.2.1) (hlv : ∀ q ∈ lv, q.1 + q.2.category ≤ i)
    (kk : zJ X R M Q false (k + 1) (j + 6) h n (hp + len) lv []) : zJ X R M Q false k j h n pc lv stk := by
  intro p e s m args below meth c A H locs ls hB hDD hL T hT Y
  subst hT
  subst hstk
  obtain ⟨q, T', L, ce, Y2, st1, h1, h2, h3, hD2⟩ := zInto hB hDD Y (ls := ls) (by rw [hB.2.2.1]; exact hL.1) hd g hC hb hc hci hR hna hsum
  obtain ⟨vm', Y3, st2⟩ := hcat X p e R s m args below meth c A T' _ _ _ ls (st.map (zV X.2.2.2.1)) q ce hB Y2 h1 h2 h3
  have hkeep : ∀ ls' : Array Slot, lv_has ls' M.2.2.1 ((i, Value.ref q) :: (lv.map fun q => (q.1, zV X.2.2.2.1 q.2)).filter (fun q => !(q.1 == i) && !(q.1 + 1 == i && q.2.category == 2))) → lv_has ls' M.2.2.1 (lv.map fun q => (q.1, zV X.2.2.2.1 q.2)) := by
    intro ls' hL'
    refine ⟨hL'.1, hL'.2.1, fun q0 hq0 => hL'.2.2 q0 (List.mem_cons_of_mem _ (List.mem_filter.mpr ⟨hq0, ?_⟩))⟩
    obtain ⟨q1, hq1, rfl⟩ := List.mem_map.mp hq0
    have h9 := hlv q1 hq1
    have h8 : 1 ≤ q1.2.category := by cases q1.2 <;> exact Nat.le_of_ble_eq_true rfl
    simp only [zV_cat, Bool.and_eq_true, Bool.not_eq_true', beq_eq_false_iff_ne, ne_eq, Bool.and_eq_false_iff]
    refine ⟨by omega, ?_⟩
    by_cases h7 : q1.1 + 1 = i
    · exact Or.inr (by omega)
    · exact Or.inl h7
  have hW : W p X.1 e R s m args below meth c T'.heap (locs ++ L) (k + 1) (j + 6) (Q A below args s) (F0 m hp ls [.ref q]) := by
    rcases hda with ⟨rfl, hda⟩ | ⟨rfl, f, rfl, hda⟩
    · exact lv_astore hB.1 hB.2.1 hda hL hi rfl (fun ls' hL' => kk p e s m args below meth c A T'.heap (locs ++ L) ls' hB hD2 (hkeep ls' hL'))
    · exact lv_astore_n hB.1 hB.2.1 hda rfl hL hi rfl (fun ls' hL' => kk p e s m args below meth c A T'.heap (locs ++ L) ls' hB hD2 (hkeep ls' hL'))
  obtain ⟨t, a1, b1⟩ := hW (T'.setVm vm') rfl Y3
  exact ⟨t, st1.trans (st2 t a1), b1⟩
end ZTD
