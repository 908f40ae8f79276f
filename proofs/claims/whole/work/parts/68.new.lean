section ZN
variable {X : zX} {R : Room} {M : zM} {Q : zQT} {k j : Nat} {h : zH} {n pc : Nat} {lv : List (Nat × Value)} {st stk : List Value}
variable {p : Program} {e : Env} {s : State} {m : MethodId} {args : Array Value} {meth : Method} {c : Code} {A : Nat → Prop} {H H1 : Heap} {locs : List Loc}
theorem zn_sz (hDD : zD X A s true k h n H locs) (hsz : H.size ≤ s.heap.size + k) : H.size = X.2.2.2.1 n := by
  obtain ⟨h1, h2⟩ := hDD.2.2.2 rfl
  omega
theorem zD_new {x : va_E} (hDD : zD X A s true k h n H locs) (hB : zB X M p s m args meth c A) (hsz : H.size = X.2.2.2.1 n) (hn : n < 200) (e1 : va_at (X.2.1, X.2.2.1) zCl (X.2.2.2.1 n, zE X.2.2.2.1 X.2.2.2.2 x) H1) (z1 : H1.size = X.2.2.2.1 n + 1) (o1 : ∀ q, q < X.2.2.2.1 n → H1[q]? = H[q]?) : zD X A s true (k + 1) (va_up h n x) (n + 1) H1 locs := by
  obtain ⟨hP, hD, hS, hf⟩ := hDD
  have hk : ∀ (i : Nat) (q : Nat × va_E), (zW X.2.2.2.1 X.2.2.2.2 h n)[i]? = some q → H1[q.1]? = H[q.1]? := fun i q hq => o1 q.1 (by rw [← hsz]; exact (hP i q hq).lt)
  have hP1 : va_P (X.2.1, X.2.2.1) zCl (zW X.2.2.2.1 X.2.2.2.2 h n ++ [(X.2.2.2.1 n, zE X.2.2.2.1 X.2.2.2.2 x)]) H1 := (hP.kept hk).app (fun i q hq => by
    have hz : i < 1 := (List.getElem?_eq_some_iff.mp hq).1
    rw [show i = 0 by omega] at hq
    cases hq
    exact e1)
  have hD1 : va_D A (zW X.2.2.2.1 X.2.2.2.2 h n ++ [(X.2.2.2.1 n, zE X.2.2.2.1 X.2.2.2.2 x)]) := hD.push hP hsz.symm (hB.hA _ (by rw [← hsz]; exact hS.1))
  rw [zW_push] at hP1 hD1
  have hs1 := hB.stat.2.2.2.1 n hn
  refine ⟨hP1, hD1, ⟨by rw [z1, ← hsz]; exact Nat.le_succ_of_le hS.1, fun q h1 h2 => (o1 q (by rw [← hsz]; exact Nat.lt_of_lt_of_le h1 hS.1)).trans (hS.2.1 q h1 h2), hS.2.2⟩, fun _ => ⟨?_, ?_⟩⟩
  · rw [hs1, z1]; exact Nat.le_refl _
  · have := (hf rfl).2
    omega
def zNi (C : String) (ci N : Nat) (fs : List Value) : Prop := ∃ (T : u_T) (ty : Nat → FieldType), zCl[ci]? = some (C, T, N) ∧ (∀ w ∈ u_ws C T N, w ∈ zWA) ∧ (∀ i, i < N → parseFieldDescriptor (T i).2.2.1 = some (ty i)) ∧ Cond.instantiable C N ∈ zWA ∧ Cond.initialized C ∈ zWA ∧ (∀ i, i < N → defaultValue (ty i) = vp_V fs i) ∧ ∀ ad, fs.map (zV ad) = fs
theorem z_new {ix ci N : Nat} {C : String} {fs : List Value} (hd : decode M.2.1 pc = .ok (.new ix, 3)) (g : zNi C ci N fs) (hw : Cond.classLink M.1.cls ix C ∈ zWA) (hn : n < 200) (hk : k + 1 ≤ R.cells) (hj : j + N ≤ R.slots)
    (kk : zJ X R M Q true (k + 1) (j + N) (va_up h n (.inr (ci, fs))) (n + 1) (pc + 3) lv (.ref n :: st)) : zJ X R M Q true k j h n pc lv st := by
  intro p e s m args below meth c A H locs ls hB hDD hL
  obtain ⟨T, ty, g1, g2, g3, g4, g5, g6, g7⟩ := g
  refine zW_sz fun hsz => ?_
  have hs := zn_sz hDD hsz
  have hKn := hB.kinds.1 ci _ g1
  refine W.newcK hB.1 hB.2.1 hB.own (hB.word hw) (hB.word g4) (hB.word g5) rfl hd hk hj hKn.2.1 hs fun H1 kC hkC e1 z1 o1 => ?_
  refine kk p e s m args below meth c A H1 locs ls hB (zD_new hDD hB hs hn ?_ z1 o1) hL
  show ∃ r : vw_C, zCl[ci]? = some r ∧ t_OB _ _ _ _ _ (vp_V (fs.map (zV X.2.2.2.1)))
  rw [g7]
  exact ⟨_, g1, (u_born ty hB.words g2 hKn hkC e1 g3).to g6⟩
theorem z_newi {N : Nat} (hd : decode M.2.1 pc = .ok (.newarray .int, 2)) (hw : Cond.arrayClass .int ∈ zWA) (hn : n < 200) (hN : N ≤ 1000) (hk : k + 1 ≤ R.cells) (hj : j + N ≤ R.slots)
    (kk : zJ X R M Q true (k + 1) (j + N) (va_up h n (zAi N (fun _ => 0))) (n + 1) (pc + 2) lv (.ref n :: st)) : zJ X R M Q true k j h n pc lv (.int (nI N) :: st) := by
  intro p e s m args below meth c A H locs ls hB hDD hL
  refine zW_sz fun hsz => ?_
  have hs := zn_sz hDD hsz
  refine va_newaK (N := N) (n := nI N) (atype := .int) hB.1 hB.2.1 (hB.word hw) rfl hd rfl (nI_pos (by omega)) (nI_clamp (by omega)) (show N * 4 ≤ 536870912 by omega) hk hj hs fun H1 cA e1 z1 o1 hAr hNm => ?_
  have hcA : cA = X.2.2.2.2 0 := Option.some.inj (hNm.symm.trans (hB.kinds.2 0 _ rfl).2)
  subst hcA
  exact kk p e s m args below meth c A H1 locs ls hB (zD_new hDD hB hs hn e1 z1 o1) hL
theorem z_newl {N : Nat} (hd : decode M.2.1 pc = .ok (.newarray .long, 2)) (hw : Cond.arrayClass .long ∈ zWA) (hn : n < 200) (hN : N ≤ 1000) (hk : k + 1 ≤ R.cells) (hj : j + N ≤ R.slots)
    (kk : zJ X R M Q true (k + 1) (j + N) (va_up h n (zAl N (fun _ => 0))) (n + 1) (pc + 2) lv (.ref n :: st)) : zJ X R M Q true k j h n pc lv (.int (nI N) :: st) := by
  intro p e s m args below meth c A H locs ls hB hDD hL
  refine zW_sz fun hsz => ?_
  have hs := zn_sz hDD hsz
  refine va_newaK (N := N) (n := nI N) (atype := .long) hB.1 hB.2.1 (hB.word hw) rfl hd rfl (nI_pos (by omega)) (nI_clamp (by omega)) (show N * 8 ≤ 536870912 by omega) hk hj hs fun H1 cA e1 z1 o1 hAr hNm => ?_
  have hcA : cA = X.2.2.2.2 1 := Option.some.inj (hNm.symm.trans (hB.kinds.2 1 _ rfl).2)
  subst hcA
  exact kk p e s m args below meth c A H1 locs ls hB (zD_new hDD hB hs hn e1 z1 o1) hL
theorem z_newz {N : Nat} (hd : decode M.2.1 pc = .ok (.newarray .boolean, 2)) (hw : Cond.arrayClass .boolean ∈ zWA) (hn : n < 200) (hN : N ≤ 1000) (hk : k + 1 ≤ R.cells) (hj : j + N ≤ R.slots)
    (kk : zJ X R M Q true (k + 1) (j + N) (va_up h n (zAz N (fun _ => 0))) (n + 1) (pc + 2) lv (.ref n :: st)) : zJ X R M Q true k j h n pc lv (.int (nI N) :: st) := by
  intro p e s m args below meth c A H locs ls hB hDD hL
  refine zW_sz fun hsz => ?_
  have hs := zn_sz hDD hsz
  refine va_newaK (N := N) (n := nI N) (atype := .boolean) hB.1 hB.2.1 (hB.word hw) rfl hd rfl (nI_pos (by omega)) (nI_clamp (by omega)) (show N * 1 ≤ 536870912 by omega) hk hj hs fun H1 cA e1 z1 o1 hAr hNm => ?_
  have hcA : cA = X.2.2.2.2 2 := Option.some.inj (hNm.symm.trans (hB.kinds.2 2 _ rfl).2)
  subst hcA
  exact kk p e s m args below meth c A H1 locs ls hB (zD_new hDD hB hs hn e1 z1 o1) hL
theorem z_anew {ix t N : Nat} {C : String} (hd : decode M.2.1 pc = .ok (.anewarray ix, 3)) (ht : ∀ ca, (zT ca)[t]? = some (ca t, .object C)) (hw : Cond.classLink M.1.cls ix C ∈ zWA) (hw2 : C = "TableMachine$Table" ∨ C = "TableMachine$Cursor") (hn : n < 200) (hN : N ≤ 1000) (hk : k + 1 ≤ R.cells) (hj : j + N ≤ R.slots)
    (kk : zJ X R M Q true (k + 1) (j + N) (va_up h n (zAr t N (fun _ => none))) (n + 1) (pc + 3) lv (.ref n :: st)) : zJ X R M Q true k j h n pc lv (.int (nI N) :: st) := by
  intro p e s m args below meth c A H locs ls hB hDD hL
  refine zW_sz fun hsz => ?_
  have hs := zn_sz hDD hsz
  have hcl : (nI N).toNatClampNeg = N := nI_clamp (by omega)
  have hao : va_AO C s := by
    rcases hw2 with h9 | h9
    · rw [h9]; exact hB.stat.1.2.1
    · rw [h9]; exact hB.stat.1.2.2
  refine W.anew (n := nI N) hB.1 hB.2.1 hB.own (hB.word hw) (va_AO.use hao) rfl hd rfl (nI_pos (by omega)) (by rw [hcl]; omega) hk (by rw [hcl]; exact hj) fun cA kA comp q1 q2 q3 q4 => ?_
  obtain ⟨kA', comp', r1, r2, r3, r4⟩ := (hB.kinds.2 t _ (ht X.2.2.2.2)).2
  have hcA : cA = X.2.2.2.2 t := Option.some.inj (q1.symm.trans r4)
  subst hcA
  rw [hcl, hs]
  refine kk p e s m args below meth c A _ locs ls hB (zD_new hDD hB hs hn ?_ ?_ ?_) hL
  · show _ = some (vp_cell _ _)
    rw [arrV_new, ← hs]
    simp [zA, vp_cell, va_rf]
  · rw [Array.size_push, hs]
  · intro q hq
    rw [Array.getElem?_push, if_neg (by omega)]
theorem z_aast {ci t a v N i0 : Nat} {fs : List Value} {g : Nat → Option Nat} {r : vw_C} {i : Int32} {fr : Bool} {h' : zH} (hd : decode M.2.1 pc = .ok (.aastore, 1)) (ht : ∀ ca, (zT ca)[t]? = some (ca t, .object r.1)) (hr : zCl[ci]? = some r) (ha : a < n) (hc : h a = zAr t N g) (hv : v < n) (hcv : h v = .inr (ci, fs)) (hi : zin i i0 N) (hh : va_up h a (zAr t N (va_up g i0 (some v))) = h')
    (kk : zJ X R M Q fr k j h' n (pc + 1) lv st) : zJ X R M Q fr k j h n pc lv (.ref v :: .int i :: .ref a :: st) := by
  intro p e s m args below meth c A H locs ls hB hDD hL
  subst hh
  refine va_astq hB.1 hB.2.1 hB.kinds hDD.1 hDD.2.1 (zS_self hDD.2.2.1) a t v ci (f := fun x => (g x).map X.2.2.2.1) (vs := fs.map (zV X.2.2.2.1)) (by rw [zW_get ha, hc]; rfl) (ht _) (by rw [zW_get hv, hcv]; rfl) hr hi.vp hd (fun H1 locs1 hP hD hS => ?_)
  rw [hi.cl] at hP hD
  have e9 : (va_up (fun x => (g x).map X.2.2.2.1) i0 (some (X.2.2.2.1 v))) = fun x => (va_up g i0 (some v) x).map X.2.2.2.1 := by
    funext x
    by_cases h9 : x = i0 <;> simp [va_up, h9]
  rw [e9] at hP hD
  exact kk p e s m args below meth c A H1 locs1 ls hB (zD_put (e := zAr t N (va_up g i0 (some v))) ha hDD hP hD hS) hL
theorem z_obj {ix a : Nat} {fr : Bool} (hd : decode M.2.1 pc = .ok (.invokespecial ix, 3)) (w1 : Cond.methodLink M.1.cls ix Lib.objectInit ∈ zWA) (w2 : Cond.instanceMethod Lib.objectInit ∈ zWA) (w3 : Cond.code Lib.objectInit ⟨#[0xb1]⟩ 1 none ∈ zWA) (hf : 1 ≤ R.frames) (hl : 33 ≤ R.locals) (hsum : (st.map fun v => v.category).sum ≤ 8)
    (kk : zJ X R M Q fr k j h n (pc + 3) lv st) : zJ X R M Q fr k j h n pc lv (.ref a :: st) := by
  intro p e s m args below meth c A H locs ls hB hDD hL
  have hs := zst_sum (ad := X.2.2.2.1) hsum
  refine W.objInit hB.1 hB.2.1 hB.own (hB.word w1) (hB.word w2) (hB.word w3) rfl ?_ rfl hd hf ?_ (kk p e s m args below meth c A H locs ls hB hDD hL)
  · exact hL.1.trans hB.2.2.1.symm
  · show 2 * 0 + _ + 12 ≤ R.locals
    omega
theorem zad {ad : Nat → Nat} (h : ∀ i, i < 200 → ad (i + 1) = ad i + 1) {n : Nat} : ∀ q, n + q ≤ 200 → ad (n + q) = ad n + q
  | 0, _ => rfl
  | q + 1, hq => by
    have := zad h (n := n) q (by omega)
    have h2 := h (n + q) (by omega)
    rw [show n + (q + 1) = n + q + 1 from rfl, h2, this]; rfl
theorem z_callI {d' mc' ms' n' ix na a : Nat} {M' : zM} {av : List Value} {h' : zH} (hd : decode M.2.1 pc = .ok (.invokespecial ix, 3)) (g : zGi M.1.cls ix M' na) (hC : zC X d' M' mc' ms' true (.ref a :: av) h n none h' n') (hstk : av.reverse ++ .ref a :: st = stk) (hR : zRm R d' mc' ms' k j) (hna : av.length = na) (hsum : (st.map fun v => v.category).sum ≤ 8) (hn : n' = n + mc') (h200 : n' ≤ 200)
    (kk : zJ X R M Q true (k + mc') (j + ms') h' n' (pc + 3) lv st) : zJ X R M Q true k j h n pc lv stk := by
  intro p e s m args below meth c A H locs ls hB hDD hL
  subst hstk
  obtain ⟨⟨g1, g2, g3, g4⟩, g5, g6, g7, g8⟩ := g
  obtain ⟨r1, r2, r3, r4⟩ := hR
  refine zW_sz fun hsz => zc_go (v := none) hB hDD hL (va_runI (b := X.2.2.2.1 a) (As := av.map (zV X.2.2.2.1)) (rest := st.map (zV X.2.2.2.1)) (n := na) ⟨hB.1, hB.2.1, hB.2.2.1, hB.own, hB.words⟩ (hC H.size)
    (cwI na hB.words (zGood (zGood' g1)) (by rw [← g8]; rfl) rfl rfl (hB.word g2) (hB.word g5) (hB.word g6) g7 g3 ⟨?_, ?_⟩) (zc_pre hDD hB hsz (.ref a :: av)) rfl (by simpa using hna) hL.1 (by simp [zV]) (lv_room (zst_sum hsum)) hd ⟨r3, r4⟩) (fun _ => by rw [hn]; exact zad hB.stat.2.2.2.1 mc' (by omega)) kk
  · show d' + 3 + 1 ≤ R.frames
    omega
  · show 8 + (M'.2.2.1 + 11) + 33 * d' ≤ R.locals
    omega
theorem z_callIN {d' mc' ms' n' ix na a : Nat} {M' : zM} {av : List Value} {h' : zH} (hd : decode M.2.1 pc = .ok (.invokespecial ix, 3)) (g : zGin M.1.cls ix M' na) (hC : zC X d' M' mc' ms' true (.ref a :: av) h n none h' n') (hstk : av.reverse ++ .ref a :: st = stk) (hR : zRm R d' mc' ms' k j) (hna : av.length = na) (hsum : (st.map fun v => v.category).sum ≤ 8) (hn : n' = n + mc') (h200 : n' ≤ 200)
    (kk : zJ X R M Q true (k + mc') (j + ms') h' n' (pc + 3) lv st) : zJ X R M Q true k j h n pc lv stk := by
  intro p e s m args below meth c A H locs ls hB hDD hL
  subst hstk
  obtain ⟨⟨g1, g2, g3, g4⟩, g5, g6, g7, g8⟩ := g
  obtain ⟨r1, r2, r3, r4⟩ := hR
  refine zW_sz fun hsz => zc_go (v := none) hB hDD hL (va_runIN (b := X.2.2.2.1 a) (As := av.map (zV X.2.2.2.1)) (rest := st.map (zV X.2.2.2.1)) (n := na) ⟨hB.1, hB.2.1, hB.2.2.1, hB.own, hB.words⟩ (hC H.size)
    ⟨va_cnB na hB.words (zGood (zGood' g1)) (by rw [← g8]; rfl) rfl rfl (hB.stat.1.1 _ g5) (hB.word g2) g3 ⟨?_, ?_⟩, g7, hB.word g6⟩ (zc_pre hDD hB hsz (.ref a :: av)) rfl (by simpa using hna) hL.1 (by simp [zV]) (lv_room (zst_sum hsum)) hd ⟨r3, r4⟩) (fun _ => by rw [hn]; exact zad hB.stat.2.2.2.1 mc' (by omega)) kk
  · show d' + 3 + 1 ≤ R.frames
    omega
  · show 8 + (M'.2.2.1 + 11) + 33 * d' ≤ R.locals
    omega
end ZN
