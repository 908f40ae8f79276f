/-! methods with a table of handlers -/
def zwsW (M : zM) (hh : List (Nat × Nat × Nat × Nat)) : List Cond := .codeWith M.1 M.2.1 M.2.2.1 M.2.2.2 hh :: zWA
def zCW (X : zX) (d : Nat) (M : zM) (hh : List (Nat × Nat × Nat × Nat)) (mc ms : Nat) (av : List Value) (h : zH) (n : Nat) (v : Option Value) (hf : zH) (nf : Nat) : Prop :=
  ∀ sz : Nat, Met X.1 M.1 (zwsW M hh) (zR d mc ms) (zPc X false av h n sz) (zQ X (va_A (zW X.2.2.2.1 X.2.2.2.2 h n) sz) false v hf nf) mc ms (va_A (zW X.2.2.2.1 X.2.2.2.2 h n) sz)
theorem zCW_of {X : zX} {d : Nat} {M : zM} {hh : List (Nat × Nat × Nat × Nat)} {mc ms : Nat} {av : List Value} {h : zH} {n : Nat} {v : Option Value} {hf : zH} {nf : Nat} (hy : plainName M.1.cls = true) (hcls : M.1.cls = "TableMachineLaw") (hlen : (lg_sl av).length ≤ M.2.2.1) (hJ : zJ X (zR d mc ms) M (zRet X mc ms false v hf nf) false 0 0 h n 0 (lv_args 0 av) []) : zCW X d M hh mc ms av h n v hf nf := by
  intro sz
  refine va_MetW (cc := M.2.1) (maxL := M.2.2.1) (ret := M.2.2.2) (hh := hh) hy rfl ?_
  intro p e s m args below meth c s₁ B hml hv
  obtain ⟨rfl, hsz, hP, hK, hD0, hst, hfr⟩ := hv
  subst hsz
  have hl := lv_entry (av.map (zV X.2.2.2.1)) (n := M.2.2.1) (by rw [zlg_len]; exact hlen)
  rw [lg_entry_eq]
  rw [zlv_map] at hl
  have hpre := atoms_spec (ws := zwsW M hh) B.pre
  exact hJ p e s m _ below meth c _ s.heap [] _ ⟨B.exec, B.bytes, hml, B.returns, B.notSynchronized, fun w hw => hpre w (List.mem_cons_of_mem _ hw), findClass_of_methodNamed B.named, (name_of_methodNamed B.named B.method).1, ⟨fun h9 => absurd hcls h9, B.named⟩, hK, hst, fun q h => Or.inr h⟩
    ⟨hP, hD0.self, va_S.rf, fun hf => nomatch hf⟩ hl
def zGsW (own : String) (ix : Nat) (M' : zM) (hh : List (Nat × Nat × Nat × Nat)) (na : Nat) : Prop :=
  (Cond.codeWith M'.1 M'.2.1 M'.2.2.1 M'.2.2.2 hh ∈ zWA ∧ Cond.initialized M'.1.cls ∈ zWA ∧ (M'.1.cls ≠ "java/lang/invoke/MethodHandle" ∧ M'.1.cls ≠ "java/lang/invoke/VarHandle" ∧ (parseMethodDescriptor M'.1.desc).map (fun d => d.parameters.length) = some na) ∧ M'.2.2.1 ≤ 14) ∧ Cond.methodLink own ix M'.1 ∈ zWA ∧ Cond.static M'.1 ∈ zWA
section ZSW
variable {X : zX} {R : Room} {M : zM} {Q : zQT} {k j : Nat} {h : zH} {n pc : Nat} {lv : List (Nat × Value)} {st stk : List Value}
variable {d' mc' ms' n' ix na : Nat} {M' : zM} {av : List Value} {h' : zH} {v : Option Value} {hh : List (Nat × Nat × Nat × Nat)}
theorem z_callSW (hd : decode M.2.1 pc = .ok (.invokestatic ix, 3)) (g : zGsW M.1.cls ix M' hh na) (hC : zCW X d' M' hh mc' ms' av h n v h' n') (hstk : av.reverse ++ st = stk) (hR : zRm R d' mc' ms' k j) (hna : av.length = na) (hsum : (st.map fun v => v.category).sum ≤ 8)
    (kk : zJ X R M Q false (k + mc') (j + ms') h' n' (pc + 3) lv (v.toList ++ st)) : zJ X R M Q false k j h n pc lv stk := by
  intro p e s m args below meth c A H locs ls hB hDD hL
  subst hstk
  obtain ⟨⟨g1, g2, g3, g4⟩, g5, g6⟩ := g
  obtain ⟨r1, r2, r3, r4⟩ := hR
  refine zW_sz fun hsz => zc_go (a := (av.map (zV X.2.2.2.1)).toArray) hB hDD hL ?_ (fun h9 => nomatch h9) kk
  have hp := zc_pre hDD hB hsz av
  have hws : ∀ w ∈ zwsW M' hh, ∀ (a' : Array Value) (U : State), s.WarmedH U.vm → w.before a' U = true := pay_in hB.words (zGood (fun w hw => by
    rcases List.mem_cons.mp hw with rfl | hw
    · exact g1
    · exact hw))
  have hK : Back X.1 R p e below s args M'.1 3 8 (PreOf R mc' ms' (zPc X false av h n H.size)) (PostOf (zQ X (va_A (zW X.2.2.2.1 X.2.2.2.2 h n) H.size) false v h' n') mc' ms' (va_A (zW X.2.2.2.1 X.2.2.2.2 h n) H.size)) :=
    va_backW (bytes := M'.2.1) (maxL := M'.2.2.1) (ret := M'.2.2.2) (hh := hh) (hC H.size) hp.1 rfl rfl (by show d' + 3 + 1 ≤ R.frames; omega) (by show 8 + (M'.2.2.1 + 11) + 33 * d' ≤ R.locals; omega) hws List.mem_cons_self (fun a' U hW => pay_in hB.words (zGood (L := [.initialized M'.1.cls]) (fun w hw => by rw [List.mem_singleton.mp hw]; exact g2)) _ List.mem_cons_self a' U hW)
  intro T hT Y
  obtain ⟨mk, methM, cM, hnM, hmM, hcM, -, hlM, -, -, -, hsM⟩ := Cond.codeWith_spec (hB.word g1)
  have hstat := Cond.static_spec hnM hmM (hB.word g6)
  obtain ⟨kP, hkP, -⟩ := className_of_methodNamed hnM
  have hinP : kP.init = .initialized := Cond.initialized_spec (findClass_of_methodNamed hnM) hkP (hB.word g2)
  have hlen : (av.map (zV X.2.2.2.1)).length = methM.sig.parameters.length := by
    have h1 := g3.2.2
    rw [hsM] at h1
    rw [List.length_map, hna]
    exact (Option.some.inj h1).symm
  obtain ⟨vm1, Y1, st1⟩ := Y.invokestatic hB.1 hB.own (hB.word g5) hnM hmM hstat hkP hinP ⟨g3.1, g3.2.1⟩ (g := F0 m pc ls ((av.reverse ++ st).map (zV X.2.2.2.1))) rfl (argsL := av.map (zV X.2.2.2.1)) (rest := st.map (zV X.2.2.2.1)) hlen (by simp) (by rw [hB.2.1]; exact hd)
  obtain ⟨v9, ⟨U', l2, c2, s2⟩, X', ⟨g', mk9, t, L, e1, e2, hq, h1, hL9, h2, h3⟩, stp⟩ := hK m meth c ⟨T.setVm vm1, locs, k, j⟩ (F0 m pc ls (st.map (zV X.2.2.2.1))) (.invokestatic ix) mk (av.map (zV X.2.2.2.1)).toArray Y1 rfl (by rw [hB.2.2.1]; exact hL.1) (by rw [hB.2.1]; exact hd) (lv_room (zst_sum hsum))
    (show (T.setVm vm1).methodNamed? M'.1 = some mk by
      have q : (s.setVm (T.setVm vm1).vm).methodNamed? M'.1 = some mk := by rw [State.methodNamed?_setVm Y1.warmed.alike]; exact hnM
      exact q) ⟨r3, r4, hp.2 (T.setVm vm1) hT Y1.warmed⟩
  dsimp only [Pt.U, Pt.locs, Pt.cells, Pt.slots] at X' e1 e2 h1 h2 h3 stp
  subst h1; subst h2; subst h3
  refine ⟨v9, (T.setVm vm1).calling g' mk9 (av.map (zV X.2.2.2.1)).toArray, t, U', L, hT, X', hL9, e1, e2, hq, fun target hrest => st1 target (fun acts => ?_)⟩
  rw [doInvoke_state] at stp ⊢
  exact stp.trans hrest
end ZSW
