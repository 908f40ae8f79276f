theorem zKeep {s t : State} {cells slots : Nat} (h : s.sameButNew t [] cells slots) {q : Nat} (hq : q < s.heap.size) : t.heap[q]? = s.heap[q]? := by
  obtain ⟨-, -, -, -, -, h⟩ := h
  obtain ⟨c', h1, h2, h3, h4⟩ := h q _ (Array.getElem?_eq_getElem hq)
  have h5 : c'.slots = (s.heap[q]).slots := by
    apply Array.ext_getElem?
    intro i
    exact h4 i (by simp)
  rw [h1, h2, h5, Array.getElem?_eq_getElem hq]
section ZTR
variable {X : zX} {M : zM} {h : zH} {n pc : Nat} {lv : List (Nat × Value)}
theorem z_throw {d ix ic si : Nat} {E tx : String} (hM : M.1.cls = "TableMachine") (hd : 3 ≤ d) (hk : zTx ix ic E) (hs : ("TableMachine", si, tx) ∈ zStr) (d0 : decode M.2.1 pc = .ok (.new ix, 3)) (d3 : decode M.2.1 (pc + 3) = .ok (.dup, 1)) (d4 : decode M.2.1 (pc + 4) = .ok (.ldc si, 2)) (d6 : decode M.2.1 (pc + 6) = .ok (.invokespecial ic, 3)) (d9 : decode M.2.1 (pc + 9) = .ok (.athrow, 1)) : zJ X (zR d 1 6) M (zThr X 1 6 E h n) false 0 0 h n pc lv [] := by
  intro p e s m args below meth c A H locs ls hB hDD hL T hT Y
  subst hT
  have Y' := zRebase (R' := zR d 1 6) Y (Nat.le_refl _) (Nat.le_refl _) (by simp) (by simp)
  generalize hs' : (T.setVm s.vm).setFrames (.invoking m args :: below) = s' at Y'
  have hv : s.vm = s'.vm := by rw [← hs']; rfl
  have hh : s'.heap = T.heap := by rw [← hs']; rfl
  have hTb : zThb X.1 A s' s'.heap := by
    rw [hh]
    have h1 : zThb X.1 A s s.heap := hB.stat.2.2.2.2
    have h2 := zThb_move (A1 := A) (U := s) (State.WarmedH.refl s) (fun _ z => z) hDD.2.2.1 h1
    exact zThb_same hv h2
  have hw : ∀ w, zThW w = true → w.before args s' = true := fun w h => zThW_word h hv hB.words hTb
  have hown : s'.vm.findClass "TableMachine" = some m.cls := by rw [← hv, ← hM]; exact hB.own
  obtain ⟨sa, hsa⟩ := hTb.2.2.1 _ hs
  have htr : e.platform.stackTraces = false := by rw [Y.admits.platform]; exact hTb.1.1
  have hW : W p X.1 e (zR d 1 6) s' m args below meth c T.heap [] 0 0 (fun t => ∃ (q : Addr) (ce : Cell), t.status = .running ∧ Ended t below (.threw q) ∧ t.heap[q]? = some ce ∧ ce.vm = .none ∧ s'.vm.findClass E = some ce.cls ∧ s'.WarmedH t.vm ∧ s'.sameButNew ({ t with vm := s'.vm } : State) [] 1 6) (F0 m pc ls []) := by
    refine W.newc hB.1 hB.2.1 hown (hw _ hk.1) (hw _ hk.2.1) (hw _ hk.2.2.1) rfl d0 (by simp [zR]) (by simp [zR]) (fun cX kX hfX hkX _ hsz => ?_)
    refine lv_dup hB.1 hB.2.1 d3 rfl ?_
    refine va_ldcS hB.1 hB.2.1 hown hsa d4 ?_
    intro T₂ hT₂ X₂
    obtain ⟨U, hsteps, hrun, hend, hWm, hsame, ce, hce, k1, k2⟩ := hk.2.2.2 p X.1 e d s' m args below meth c T₂ (pc + 6) ls sa T.heap.size cX kX X₂ hd hB.1 htr hown hw hfX hkX (by rw [hT₂]; exact Array.getElem?_push_size) (by rw [hh]; exact Nat.le_refl _) (by rw [hB.2.2.1]; exact hL.1) (by rw [hB.2.1]; exact d6) (by rw [hB.2.1]; exact d9) (hB.noEx (by rw [hM]; decide)) hB.2.2.2.2.1
    exact ⟨U, hsteps, _, ce, hrun, hend, hce, k1, k2, hWm, hsame⟩
  obtain ⟨t, a1, q, ce, b1, b2, b3, b4, b5, b6, b7⟩ := hW T rfl Y'
  have hvt : s'.vm = s.vm := hv.symm
  have hkeep : ∀ q : Nat, q < T.heap.size → t.heap[q]? = T.heap[q]? := by
    intro q hq
    have := zKeep b7 (q := q) (by rw [hh]; exact hq)
    rw [hh] at this
    exact this
  have hsz : T.heap.size ≤ t.heap.size := by
    have := b7.2.1
    rw [hh] at this
    exact this
  have hsame : s.sameButNew ({ t with vm := s.vm } : State) (locs ++ []) (0 + 1) (0 + 6) := by
    have h1 := Y.same.setFrames (.invoking m args :: below) Y.cur
    rw [hs'] at h1
    rw [hvt] at b7
    exact h1.trans b7
  refine ⟨t, a1, .threw q, b1, b2, q, ce, rfl, b3, b4, by rw [hv]; exact b5, ⟨?_, hDD.2.1, ⟨Nat.le_trans hDD.2.2.1.1 hsz, fun x hx hA => ?_⟩, fun hf => nomatch hf⟩, ?_, locs ++ [], hsame, ?_⟩
  · exact hDD.1.kept (fun k q0 hq0 => hkeep _ (hDD.1 k q0 hq0).lt)
  · exact (hkeep x (Nat.lt_of_lt_of_le hx hDD.2.2.1.1)).trans (hDD.2.2.1.2.1 x hx hA)
  · exact (show s.WarmedH s'.vm by rw [hvt]; exact State.WarmedH.refl s).trans b6
  · intro z hz
    exact hDD.2.2.1.2.2 z (by simpa using hz)
end ZTR
