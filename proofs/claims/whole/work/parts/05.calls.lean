/-! contracts out of walks, calls, ends -/
theorem zlg_len (ad : Nat → Nat) : ∀ av : List Value, (lg_sl (av.map (zV ad))).length = (lg_sl av).length
  | [] => rfl
  | v :: vs => by
    have h := zlg_len ad vs
    simp only [lg_sl, List.map_cons, List.flatMap_cons, List.length_append] at h ⊢
    rw [zV_cat, h]
    split <;> rfl
/-- a contract, out of a walk of the method's body -/
theorem zC_of {X : zX} {d : Nat} {M : zM} {mc ms : Nat} {fr : Bool} {av : List Value} {h : zH} {n : Nat} {v : Option Value} {hf : zH} {nf : Nat} (hy : plainName M.1.cls = true) (hlen : (lg_sl av).length ≤ M.2.2.1) (hJ : zJ X (zR d mc ms) M (zRet X mc ms fr v hf nf) fr 0 0 h n 0 (lv_args 0 av) []) : zC X d M mc ms fr av h n v hf nf := by
  intro sz
  refine Met.ofW (cc := M.2.1) (maxL := M.2.2.1) (ret := M.2.2.2) hy rfl ?_
  intro p e s m args below meth c s₁ B hml hv
  obtain ⟨rfl, hsz, hP, hK, hD0, hst, hfr⟩ := hv
  subst hsz
  have hl := lv_entry (av.map (zV X.2.2.2.1)) (n := M.2.2.1) (by rw [zlg_len]; exact hlen)
  rw [lg_entry_eq]
  rw [zlv_map] at hl
  have hpre := atoms_spec (ws := zws M) B.pre
  have hT : ∀ x ∈ c.exceptionTable.toList, False := by
    have h7 := BodyLoose.noHandlers B (hpre _ List.mem_cons_self)
    intro x hx
    rw [Array.isEmpty_iff.mp h7] at hx
    cases hx
  exact hJ p e s m _ below meth c _ s.heap [] _ ⟨B.exec, B.bytes, hml, B.returns, B.notSynchronized, fun w hw => hpre w (List.mem_cons_of_mem _ hw), findClass_of_methodNamed B.named, (name_of_methodNamed B.named B.method).1, ⟨fun _ => hT, B.named⟩, hK, hst, fun q h => Or.inr h⟩
    ⟨hP, hD0.self, va_S.rf, fun hf => ⟨Nat.le_of_eq (hfr hf).symm, (hfr hf).symm⟩⟩ hl
section ZK
variable {p : Program} {l : Launch} {e : Env} {R : Room} {s : State} {m : MethodId} {args : Array Value} {below : List Frame} {meth : Method} {c : Code} {H : Heap} {locs : List Loc} {cells slots : Nat} {Q : State → Prop} {g : JFrame}
theorem zW_sz (kk : H.size ≤ s.heap.size + cells → W p l e R s m args below meth c H locs cells slots Q g) : W p l e R s m args below meth c H locs cells slots Q g :=
  fun T hT Y => kk (by have h9 := Y.heapSize; rw [hT] at h9; omega) T hT Y
end ZK
section ZC
variable {X : zX} {R : Room} {M : zM} {Q : zQT} {fr : Bool} {k j : Nat} {h : zH} {n pc : Nat} {lv : List (Nat × Value)} {st : List Value}
variable {p : Program} {e : Env} {s : State} {m : MethodId} {args : Array Value} {below : List Frame} {meth : Method} {c : Code} {A : Nat → Prop} {H : Heap} {locs : List Loc} {ls : Array Slot}
theorem zc_in (hDD : zD X A s fr k h n H locs) (hB : zB X M p s m args meth c A) : ∀ q, va_A (zW X.2.2.2.1 X.2.2.2.2 h n) H.size q → A q := by
  intro q hq
  rcases hq with ⟨i, e9, hi⟩ | hq
  · exact hDD.2.1.2 i (q, e9) hi
  · exact hB.hA q (Nat.le_trans hDD.2.2.1.1 hq)
theorem zc_pre (hDD : zD X A s fr k h n H locs) (hB : zB X M p s m args meth c A) (hsz : H.size ≤ s.heap.size + k) (av : List Value) : PreS s H (zPc X fr av h n H.size) (av.map (zV X.2.2.2.1)) := by
  refine ⟨fun a U g mk q => ?_, fun U hU hW => ?_⟩
  · obtain ⟨q0, q1, qP, qK, qD, qS, qf⟩ := q
    exact ⟨q0, q1, qP, va_K.moved (u := U) (U := U.calling g mk a) (Vm.Alike.refl U.vm) qK, qD, zS_same (U := U) (U' := U.calling g mk a) rfl rfl qS, qf⟩
  · refine ⟨rfl, by rw [hU], by rw [hU]; exact hDD.1, va_K.moved hW.alike hB.kinds, hDD.2.1.weaken (fun _ _ _ _ => trivial), ?_, fun hf => ?_⟩
    · rw [hU]
      exact zS_move hW (zc_in hDD hB) hDD.2.2.1 hB.stat
    · obtain ⟨h1, h2⟩ := hDD.2.2.2 hf
      omega
theorem zc_keep {st₀ t T' : State} {L : List Loc} (hB : zB X M p s m args meth c A) (hDD : zD X A s fr k h n H locs) (h0 : st₀.heap = H) (e1 : T'.heap = t.heap) (hL : ∀ q ∈ L, va_A (zW X.2.2.2.1 X.2.2.2.2 h n) H.size q.base) (hF : va_F (va_A (zW X.2.2.2.1 X.2.2.2.2 h n) H.size) st₀ t) : va_S A s.heap T'.heap (locs ++ L) := by
  obtain ⟨f1, f2⟩ := hF
  rw [h0] at f1 f2
  refine zS_tr hDD.2.2.1 ⟨by rw [e1]; exact f1, fun q hq hA => ?_, fun q hq => ?_⟩
  · rw [e1]
    exact f2 q hq (fun h9 => hA (zc_in hDD hB q h9))
  · rcases List.mem_append.mp hq with h9 | h9
    · exact hDD.2.2.1.2.2 q h9
    · exact zc_in hDD hB _ (hL q h9)
theorem zc_go {mc' ms' n' : Nat} {v : Option Value} {h' : zH} {a : Array Value} {stc : List Value} (hB : zB X M p s m args meth c A) (hDD : zD X A s fr k h n H locs) (hL : lv_has ls M.2.2.1 (lv.map fun q => (q.1, zV X.2.2.2.1 q.2)))
    (hr : va_Run p X.1 e R s m args below meth c H locs k j mc' ms' (F0 m pc ls stc) (st.map (zV X.2.2.2.1)) (zQ X (va_A (zW X.2.2.2.1 X.2.2.2.2 h n) H.size) fr v h' n' a) (va_A (zW X.2.2.2.1 X.2.2.2.2 h n) H.size))
    (hn : fr = true → X.2.2.2.1 n' = X.2.2.2.1 n + mc') (kk : zJ X R M Q fr (k + mc') (j + ms') h' n' (pc + 3) lv (v.toList ++ st)) :
    W p X.1 e R s m args below meth c H locs k j (Q A below args s) (F0 m pc ls stc) := by
  intro T hT X0
  obtain ⟨v9, st0, t, T', L, h0, X', hL9, e1, e2, ⟨hv9, hP, hD, hF, hz⟩, stp⟩ := hr T hT X0
  cases hv9
  obtain ⟨t2, a1, b1⟩ := kk p e s m args below meth c A T'.heap (locs ++ L) ls hB ⟨by rw [e1]; exact hP, hD.weaken (fun _ _ _ h9 => zc_in hDD hB _ h9), zc_keep hB hDD h0 e1 hL9 hF, fun hf => ⟨by rw [e1]; exact hz hf, by rw [hn hf, (hDD.2.2.2 hf).2]; omega⟩⟩ hL T' rfl X'
  refine ⟨t2, stp t2 ?_, b1⟩
  cases v <;> exact a1
end ZC
/-! words of a call -/
def zGw (M' : zM) (na : Nat) : Prop := Cond.code M'.1 M'.2.1 M'.2.2.1 M'.2.2.2 ∈ zWA ∧ Cond.initialized M'.1.cls ∈ zWA ∧ (M'.1.cls ≠ "java/lang/invoke/MethodHandle" ∧ M'.1.cls ≠ "java/lang/invoke/VarHandle" ∧ (parseMethodDescriptor M'.1.desc).map (fun d => d.parameters.length) = some na) ∧ M'.2.2.1 ≤ 14
def zGv (own : String) (ix : Nat) (M' : zM) (na : Nat) : Prop := zGw M' na ∧ Cond.methodLink own ix M'.1 ∈ zWA ∧ Cond.instanceMethod M'.1 ∈ zWA ∧ Cond.selects M'.1.cls M'.1 M'.1 ∈ zWA
def zGs (own : String) (ix : Nat) (M' : zM) (na : Nat) : Prop := zGw M' na ∧ Cond.methodLink own ix M'.1 ∈ zWA ∧ Cond.static M'.1 ∈ zWA
def zGn (own : String) (ix : Nat) (M' : zM) (na : Nat) : Prop := zGw M' na ∧ (own, ix, M'.1) ∈ zNest ∧ Cond.static M'.1 ∈ zWA
def zGi (own : String) (ix : Nat) (M' : zM) (na : Nat) : Prop := zGw M' na ∧ Cond.methodLink own ix M'.1 ∈ zWA ∧ Cond.instanceMethod M'.1 ∈ zWA ∧ M'.1.name = "<init>" ∧ M'.2.2.2 = none
def zGin (own : String) (ix : Nat) (M' : zM) (na : Nat) : Prop := zGw M' na ∧ (own, ix, M'.1) ∈ zNest ∧ Cond.instanceMethod M'.1 ∈ zWA ∧ M'.1.name = "<init>" ∧ M'.2.2.2 = none
theorem zGood {L : List Cond} (h : ∀ w ∈ L, w ∈ zWA) : GoodIn zWA L := fun w hw => ⟨h w hw, good_of_word (zWA_good w (h w hw))⟩
theorem zGood' {M' : zM} (h : Cond.code M'.1 M'.2.1 M'.2.2.1 M'.2.2.2 ∈ zWA) : ∀ w ∈ zws M', w ∈ zWA := fun w hw => by
  rcases List.mem_cons.mp hw with rfl | hw
  · exact h
  · exact hw
theorem zst_sum {ad : Nat → Nat} {st : List Value} (h : (st.map fun v => v.category).sum ≤ 8) : ((st.map (zV ad)).map fun v => v.category).sum ≤ 8 := by
  have e : (st.map (zV ad)).map (fun v => v.category) = st.map fun v => v.category := by
    rw [List.map_map]
    exact List.map_congr_left fun v _ => zV_cat ad v
  rw [e]
  exact h
section ZQ
variable {X : zX} {R : Room} {M : zM} {Q : zQT} {fr : Bool} {k j : Nat} {h : zH} {n pc : Nat} {lv : List (Nat × Value)} {st stk : List Value}
variable {d' mc' ms' n' ix na : Nat} {M' : zM} {av : List Value} {h' : zH} {v : Option Value}
/-- the room of the caller is enough for the callee -/
def zRm (R : Room) (d' mc' ms' k j : Nat) : Prop := d' + 4 ≤ R.frames ∧ 33 * d' + 33 ≤ R.locals ∧ k + mc' ≤ R.cells ∧ j + ms' ≤ R.slots
theorem z_callS (hd : decode M.2.1 pc = .ok (.invokestatic ix, 3)) (g : zGs M.1.cls ix M' na) (hC : zC X d' M' mc' ms' fr av h n v h' n') (hstk : av.reverse ++ st = stk) (hR : zRm R d' mc' ms' k j) (hna : av.length = na) (hsum : (st.map fun v => v.category).sum ≤ 8) (hn : fr = true → X.2.2.2.1 n' = X.2.2.2.1 n + mc')
    (kk : zJ X R M Q fr (k + mc') (j + ms') h' n' (pc + 3) lv (v.toList ++ st)) : zJ X R M Q fr k j h n pc lv stk := by
  intro p e s m args below meth c A H locs ls hB hDD hL
  subst hstk
  obtain ⟨⟨g1, g2, g3, g4⟩, g5, g6⟩ := g
  obtain ⟨r1, r2, r3, r4⟩ := hR
  refine zW_sz fun hsz => zc_go hB hDD hL (va_runS (As := av.map (zV X.2.2.2.1)) (rest := st.map (zV X.2.2.2.1)) (n := na) ⟨hB.1, hB.2.1, hB.2.2.1, hB.own, hB.words⟩ (hC H.size)
    (va_cwS na hB.words (zGood (fun w hw => ?_)) rfl rfl rfl g3 ⟨?_, ?_⟩) (zc_pre hDD hB hsz av) rfl (by simpa using hna) hL.1 (by simp) (lv_room (zst_sum hsum)) hd ⟨r3, r4⟩) hn kk
  · unfold va_wsS at hw
    simp only [List.cons_append, List.nil_append, List.mem_cons] at hw
    rcases hw with rfl | rfl | rfl | hw
    · exact g5
    · exact g6
    · exact g2
    · exact zGood' g1 w hw
  · show d' + 3 + 1 ≤ R.frames
    omega
  · show 8 + (M'.2.2.1 + 11) + 33 * d' ≤ R.locals
    omega
theorem z_callN (hd : decode M.2.1 pc = .ok (.invokestatic ix, 3)) (g : zGn M.1.cls ix M' na) (hC : zC X d' M' mc' ms' fr av h n v h' n') (hstk : av.reverse ++ st = stk) (hR : zRm R d' mc' ms' k j) (hna : av.length = na) (hsum : (st.map fun v => v.category).sum ≤ 8) (hn : fr = true → X.2.2.2.1 n' = X.2.2.2.1 n + mc')
    (kk : zJ X R M Q fr (k + mc') (j + ms') h' n' (pc + 3) lv (v.toList ++ st)) : zJ X R M Q fr k j h n pc lv stk := by
  intro p e s m args below meth c A H locs ls hB hDD hL
  subst hstk
  obtain ⟨⟨g1, g2, g3, g4⟩, g5, g6⟩ := g
  obtain ⟨r1, r2, r3, r4⟩ := hR
  refine zW_sz fun hsz => zc_go hB hDD hL (va_runSN (As := av.map (zV X.2.2.2.1)) (rest := st.map (zV X.2.2.2.1)) (n := na) ⟨hB.1, hB.2.1, hB.2.2.1, hB.own, hB.words⟩ (hC H.size)
    ⟨va_cnB na hB.words (zGood (zGood' g1)) rfl rfl rfl (hB.stat.1.1 _ g5) (hB.word g2) g3 ⟨?_, ?_⟩, hB.word g6, trivial⟩ (zc_pre hDD hB hsz av) rfl (by simpa using hna) hL.1 (by simp) (lv_room (zst_sum hsum)) hd ⟨r3, r4⟩) hn kk
  · show d' + 3 + 1 ≤ R.frames
    omega
  · show 8 + (M'.2.2.1 + 11) + 33 * d' ≤ R.locals
    omega
theorem z_callV {b ci : Nat} {fs : List Value} {T : u_T} {N : Nat} (hd : decode M.2.1 pc = .ok (.invokevirtual ix, 3)) (g : zGv M.1.cls ix M' na) (hC : zC X d' M' mc' ms' fr (.ref b :: av) h n v h' n') (hb : b < n) (hc : h b = .inr (ci, fs)) (hci : zCl[ci]? = some (M'.1.cls, T, N)) (hstk : av.reverse ++ .ref b :: st = stk) (hR : zRm R d' mc' ms' k j) (hna : av.length = na) (hsum : (st.map fun v => v.category).sum ≤ 8) (hn : fr = true → X.2.2.2.1 n' = X.2.2.2.1 n + mc')
    (kk : zJ X R M Q fr (k + mc') (j + ms') h' n' (pc + 3) lv (v.toList ++ st)) : zJ X R M Q fr k j h n pc lv stk := by
  intro p e s m args below meth c A H locs ls hB hDD hL
  subst hstk
  obtain ⟨⟨g1, g2, g3, g4⟩, g5, g6, g7⟩ := g
  obtain ⟨r1, r2, r3, r4⟩ := hR
  refine zW_sz fun hsz => ?_
  have hpr := zc_pre hDD hB hsz (.ref b :: av)
  refine zc_go hB hDD hL (va_runV (C := M'.1.cls) (b := X.2.2.2.1 b) (As := av.map (zV X.2.2.2.1)) (rest := st.map (zV X.2.2.2.1)) (n := na) ⟨hB.1, hB.2.1, hB.2.2.1, hB.own, hB.words⟩ (hC H.size)
    (cwV na hB.words (zGood (fun w hw => ?_)) rfl rfl rfl ⟨rfl, g3⟩ ⟨?_, ?_⟩) ⟨hpr.1, va_recv hB.kinds hDD.1 hci (q0 := b) (fs := fs.map (zV X.2.2.2.1)) (by rw [zW_get hb, hc]; rfl), hpr.2⟩ rfl (by simpa using hna) hL.1 (by simp [zV]) (lv_room (zst_sum hsum)) hd ⟨r3, r4⟩) hn kk
  · unfold wsV at hw
    simp only [List.cons_append, List.nil_append, List.mem_cons] at hw
    rcases hw with rfl | rfl | rfl | rfl | hw
    · exact g5
    · exact g6
    · exact g7
    · exact g2
    · exact zGood' g1 w hw
  · show d' + 3 + 1 ≤ R.frames
    omega
  · show 8 + (M'.2.2.1 + 11) + 33 * d' ≤ R.locals
    omega
end ZQ
section ZE
variable {X : zX} {R : Room} {M : zM} {mc ms : Nat} {fr : Bool} {hf : zH} {k j : Nat} {h : zH} {n pc : Nat} {lv : List (Nat × Value)}
theorem zF_of {A : Nat → Prop} {s t : State} {H : Heap} {locs : List Loc} (hDD : zD X A s fr k h n H locs) (ht : t.heap = H) : zF X A fr h n s t :=
  ⟨by rw [ht]; exact hDD.1, hDD.2.1, hDD.2.2.1.F ht, fun h9 => by rw [ht]; exact (hDD.2.2.2 h9).1⟩
theorem z_iret {x r : Int32} (hd : decode M.2.1 pc = .ok (.ireturn, 1)) (hr : M.2.2.2 = some .int) (hk : k ≤ mc) (hj : j ≤ ms) (hx : x = r) (hh : h = hf) : zJ X R M (zRet X mc ms fr (some (.int r)) hf n) fr k j h n pc lv [.int x] := by
  intro p e s m args below meth c A H locs ls hB hDD hL
  subst hx; subst hh
  exact W.widen hk hj (W.iret hB.1 hB.2.1 (hB.2.2.2.1.trans hr) (fun t ht hW => ⟨rfl, zF_of hDD ht⟩) hDD.2.2.1.2.2 hd hB.2.2.2.2.1)
theorem z_zret {x r : Int32} (hd : decode M.2.1 pc = .ok (.ireturn, 1)) (hr : M.2.2.2 = some .boolean) (hk : k ≤ mc) (hj : j ≤ ms) (hn : narrow .boolean (.int x) = .int x) (hx : x = r) (hh : h = hf) : zJ X R M (zRet X mc ms fr (some (.int r)) hf n) fr k j h n pc lv [.int x] := by
  intro p e s m args below meth c A H locs ls hB hDD hL
  subst hx; subst hh
  exact W.widen hk hj (W.zret hB.1 hB.2.1 (hB.2.2.2.1.trans hr) hn (fun t ht hW => ⟨rfl, zF_of hDD ht⟩) hDD.2.2.1.2.2 hd hB.2.2.2.2.1)
theorem z_lret {x r : Int64} (hd : decode M.2.1 pc = .ok (.lreturn, 1)) (hr : M.2.2.2 = some .long) (hk : k ≤ mc) (hj : j ≤ ms) (hx : x = r) (hh : h = hf) : zJ X R M (zRet X mc ms fr (some (.long r)) hf n) fr k j h n pc lv [.long x] := by
  intro p e s m args below meth c A H locs ls hB hDD hL
  subst hx; subst hh
  exact W.widen hk hj (W.lret hB.1 hB.2.1 (hB.2.2.2.1.trans hr) (fun t ht hW => ⟨rfl, zF_of hDD ht⟩) hDD.2.2.1.2.2 hd hB.2.2.2.2.1)
theorem z_vret (hd : decode M.2.1 pc = .ok (.return_, 1)) (hr : M.2.2.2 = none) (hk : k ≤ mc) (hj : j ≤ ms) (hh : h = hf) : zJ X R M (zRet X mc ms fr none hf n) fr k j h n pc lv [] := by
  intro p e s m args below meth c A H locs ls hB hDD hL
  subst hh
  exact W.widen hk hj (W.vret hB.1 hB.2.1 (hB.2.2.2.1.trans hr) (fun t ht hW => ⟨rfl, zF_of hDD ht⟩) hDD.2.2.1.2.2 hd hB.2.2.2.2.1)
/-- fewer of the locals are told -/
theorem z_loc {Q : zQT} {lv lv' : List (Nat × Value)} {st : List Value} (h1 : ∀ q ∈ lv', q ∈ lv) (kk : zJ X R M Q fr k j h n pc lv' st) : zJ X R M Q fr k j h n pc lv st := by
  intro p e s m args below meth c A H locs ls hB hDD hL
  refine kk p e s m args below meth c A H locs ls hB hDD ⟨hL.1, hL.2.1, fun q hq => hL.2.2 q ?_⟩
  obtain ⟨q0, hq0, rfl⟩ := List.mem_map.mp hq
  exact List.mem_map.mpr ⟨q0, h1 q0 hq0, rfl⟩
/-- the table of the operands' kinds -/
theorem z_kinds {Q : zQT} {t : Nat} {i : Int32} {st : List Value} (hd : decode M.2.1 pc = .ok (.iaload, 1)) (hi : zin i t 66) (kk : zJ X R M Q fr k j h n (pc + 1) lv (.int (zKinds.getD t 0) :: st)) : zJ X R M Q fr k j h n pc lv (.int i :: .ref 900 :: st) := by
  intro p e s m args below meth c A H locs ls hB hDD hL
  have h9 := kk p e s m args below meth c A H locs ls hB hDD hL
  rw [← hi.cl] at h9
  exact va_ti hB.1 hB.2.1 hB.stat.2.2.1 hDD.2.2.1 hi.vp rfl hd h9
theorem z_getKinds {Q : zQT} {ix : Nat} {st : List Value} (hd : decode M.2.1 pc = .ok (.getstatic ix, 3)) (hw : Cond.fieldLink M.1.cls ix "TableMachine$Op" "KINDS" "[I" ∈ zWA) (kk : zJ X R M Q fr k j h n (pc + 3) lv (.ref 900 :: st)) : zJ X R M Q fr k j h n pc lv st := by
  intro p e s m args below meth c A H locs ls hB hDD hL
  exact va_gets hB.1 hB.2.1 hB.stat.2.1 hDD.2.2.1 hB.own (hB.word hw) (fun _ h9 => h9) hd (kk p e s m args below meth c A H locs ls hB hDD hL)
end ZE
