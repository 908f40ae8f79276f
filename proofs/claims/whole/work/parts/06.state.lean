/-! The heap once all is made: 60 cells. J a i: the i-th int (or boolean) field or element of cell a; G a i: the i-th long of it. -/
abbrev zJT : Type := Nat → Nat → Int32
abbrev zGT : Type := Nat → Nat → Int64
def zAi (n : Nat) (f : Nat → Int32) : va_E := .inl (0, n, .inl f)
def zAz (n : Nat) (f : Nat → Int32) : va_E := .inl (2, n, .inl f)
def zAl (n : Nat) (g : Nat → Int64) : va_E := .inl (1, n, .inr (.inl g))
def zAr (t n : Nat) (g : Nat → Option Nat) : va_E := .inl (t, n, .inr (.inr (.inr (.inr g))))
def zsh (i : Nat) (f : Nat → Int32) (g : Nat → Int64) : va_E := match i with
  | 0 => .inr (0, [.ref 1, .ref 2, .ref 15, .ref 17, .ref 29, .ref 32])
  | 1 => .inr (1, [.ref 2, .ref 15, .ref 17, .ref 22, .ref 25, .int (f 5)])
  | 2 => .inr (2, [.ref 3, .int (f 1), .ref 4, .ref 7, .ref 8, .int (f 5)])
  | 3 => zAr 3 3 (fun t => if t = 0 then some 9 else if t = 1 then some 11 else if t = 2 then some 13 else none)
  | 4 => .inr (4, [.ref 5, .ref 6])
  | 5 => zAl 360 g
  | 6 => zAz 360 f
  | 7 => zAl 90 g
  | 8 => zAi 90 f
  | 9 => .inr (3, [.int (f 0), .int (f 1), .ref 10])
  | 10 => zAi 90 f
  | 11 => .inr (3, [.int (f 0), .int (f 1), .ref 12])
  | 12 => zAi 90 f
  | 13 => .inr (3, [.int (f 0), .int (f 1), .ref 14])
  | 14 => zAi 90 f
  | 15 => .inr (6, [.int (f 0), .ref 16])
  | 16 => zAi 240 f
  | 17 => .inr (7, [.int (f 0), .ref 18, .ref 19])
  | 18 => zAi 64 f
  | 19 => .inr (4, [.ref 20, .ref 21])
  | 20 => zAl 256 g
  | 21 => zAz 256 f
  | 22 => .inr (4, [.ref 23, .ref 24])
  | 23 => zAl 16 g
  | 24 => zAz 16 f
  | 25 => zAr 4 3 (fun t => if t = 0 then some 26 else if t = 1 then some 27 else if t = 2 then some 28 else none)
  | 26 => .inr (5, [.int (f 0), .int (f 1), .long (g 2)])
  | 27 => .inr (5, [.int (f 0), .int (f 1), .long (g 2)])
  | 28 => .inr (5, [.int (f 0), .int (f 1), .long (g 2)])
  | 29 => .inr (4, [.ref 30, .ref 31])
  | 30 => zAl 4 g
  | 31 => zAz 4 f
  | 32 => .inr (8, [.ref 33, .int (f 1), .int (f 2), .int (f 3), .ref 34, .ref 35, .ref 36, .ref 37, .ref 38, .ref 39, .int (f 10), .int (f 11), .int (f 12)])
  | 33 => zAi 2 f
  | 34 => zAi 4 f
  | 35 => zAi 4 f
  | 36 => zAi 4 f
  | 37 => zAi 4 f
  | 38 => zAi 4 f
  | 39 => zAi 4 f
  | 40 => .inr (9, [.int (f 0), .int (f 1), .ref 41, .int (f 3), .ref 42, .ref 43, .ref 44, .ref 45, .ref 46, .ref 47, .int (f 10), .ref 48, .ref 49, .ref 50, .ref 51, .ref 52, .ref 53, .int (f 17), .int (f 18), .int (f 19), .ref 54, .ref 55, .ref 56, .int (f 23), .int (f 24), .int (f 25), .ref 57, .int (f 27), .ref 58, .int (f 29), .int (f 30), .int (f 31)])
  | 41 => zAi 3 f
  | 42 => zAi 90 f
  | 43 => zAl 90 g
  | 44 => zAl 360 g
  | 45 => zAz 360 f
  | 46 => zAl 4 g
  | 47 => zAz 4 f
  | 48 => zAi 240 f
  | 49 => zAl 16 g
  | 50 => zAz 16 f
  | 51 => zAi 3 f
  | 52 => zAz 3 f
  | 53 => zAl 3 g
  | 54 => zAi 64 f
  | 55 => zAl 256 g
  | 56 => zAz 256 f
  | 57 => zAi 8 f
  | 58 => zAi 16 f
  | 59 => zAl 1 g
  | _ => .inr (0, [])
def hp (J : zJT) (G : zGT) : zH := fun i => zsh i (J i) (G i)
theorem hp_J {J : zJT} {G : zGT} {a : Nat} {f : Nat → Int32} {e : va_E} (h : e = zsh a f (G a)) : va_up (hp J G) a e = hp (va_up J a f) G := by
  funext i
  by_cases hi : i = a
  · subst hi; subst h; simp [va_up, hp]
  · simp [va_up, hp, hi]
theorem hp_G {J : zJT} {G : zGT} {a : Nat} {g : Nat → Int64} {e : va_E} (h : e = zsh a (J a) g) : va_up (hp J G) a e = hp J (va_up G a g) := by
  funext i
  by_cases hi : i = a
  · subst hi; subst h; simp [va_up, hp]
  · simp [va_up, hp, hi]
/-- a contract over the whole heap, of a method that makes nothing -/
abbrev zK (X : zX) (d : Nat) (M : zM) (av : List Value) (J : zJT) (G : zGT) (v : Option Value) (J' : zJT) (G' : zGT) : Prop := zC X d M 0 0 false av (hp J G) 60 v (hp J' G') 60
/-- a truth value as Java's -/
def zb (b : Bool) : Int32 := if b then 1 else 0
theorem zb_n (b : Bool) : narrow .boolean (.int (zb b)) = .int (zb b) := by cases b <;> decide
theorem zb_v (b : Bool) : vp_nar .boolean (zb b) = zb b := by cases b <;> decide
/-! writes, as the walk makes them -/
theorem hp_pi {J : zJT} {G : zGT} {a : Nat} (k : Nat) {v : Int32} {e : va_E} (h : e = zsh a (va_up (J a) k v) (G a)) : va_up (hp J G) a e = hp (va_up J a (va_up (J a) k v)) G := hp_J h
theorem hp_pl {J : zJT} {G : zGT} {a : Nat} (k : Nat) {v : Int64} {e : va_E} (h : e = zsh a (J a) (va_up (G a) k v)) : va_up (hp J G) a e = hp J (va_up G a (va_up (G a) k v)) := hp_G h
theorem hp_ai {J : zJT} {G : zGT} {a t : Nat} {x : Int32} {e : va_E} (h : e = zsh a (upd (J a) t x) (G a)) : va_up (hp J G) a e = hp (va_up J a (upd (J a) t x)) G := hp_J h
theorem hp_al {J : zJT} {G : zGT} {a t : Nat} {x : Int64} {e : va_E} (h : e = zsh a (J a) (vp_updL (G a) t x)) : va_up (hp J G) a e = hp J (va_up G a (vp_updL (G a) t x)) := hp_G h
section ZV
variable {X : zX} {R : Room} {M : zM} {Q : zQT} {fr : Bool} {k j : Nat} {h : zH} {n pc : Nat} {lv : List (Nat × Value)} {st stk : List Value}
variable {d' mc' ms' n' ix na : Nat} {M' : zM} {av : List Value} {h' : zH} {v : Value}
theorem z_callS1 (hd : decode M.2.1 pc = .ok (.invokestatic ix, 3)) (g : zGs M.1.cls ix M' na) (hC : zC X d' M' mc' ms' false av h n (some v) h' n') (hstk : av.reverse ++ st = stk) (hR : zRm R d' mc' ms' k j) (hna : av.length = na) (hsum : (st.map fun v => v.category).sum ≤ 8)
    (kk : zJ X R M Q false (k + mc') (j + ms') h' n' (pc + 3) lv (v :: st)) : zJ X R M Q false k j h n pc lv stk := z_callS hd g hC hstk hR hna hsum (fun h9 => nomatch h9) kk
theorem z_callN1 (hd : decode M.2.1 pc = .ok (.invokestatic ix, 3)) (g : zGn M.1.cls ix M' na) (hC : zC X d' M' mc' ms' false av h n (some v) h' n') (hstk : av.reverse ++ st = stk) (hR : zRm R d' mc' ms' k j) (hna : av.length = na) (hsum : (st.map fun v => v.category).sum ≤ 8)
    (kk : zJ X R M Q false (k + mc') (j + ms') h' n' (pc + 3) lv (v :: st)) : zJ X R M Q false k j h n pc lv stk := z_callN hd g hC hstk hR hna hsum (fun h9 => nomatch h9) kk
theorem z_callV1 {b ci : Nat} {fs : List Value} {T : u_T} {N : Nat} (hd : decode M.2.1 pc = .ok (.invokevirtual ix, 3)) (g : zGv M.1.cls ix M' na) (hC : zC X d' M' mc' ms' false (.ref b :: av) h n (some v) h' n') (hb : b < n) (hc : h b = .inr (ci, fs)) (hci : zCl[ci]? = some (M'.1.cls, T, N)) (hstk : av.reverse ++ .ref b :: st = stk) (hR : zRm R d' mc' ms' k j) (hna : av.length = na) (hsum : (st.map fun v => v.category).sum ≤ 8)
    (kk : zJ X R M Q false (k + mc') (j + ms') h' n' (pc + 3) lv (v :: st)) : zJ X R M Q false k j h n pc lv stk := z_callV hd g hC hb hc hci hstk hR hna hsum (fun h9 => nomatch h9) kk
theorem z_callV0 {b ci : Nat} {fs : List Value} {T : u_T} {N : Nat} (hd : decode M.2.1 pc = .ok (.invokevirtual ix, 3)) (g : zGv M.1.cls ix M' na) (hC : zC X d' M' mc' ms' false (.ref b :: av) h n none h' n') (hb : b < n) (hc : h b = .inr (ci, fs)) (hci : zCl[ci]? = some (M'.1.cls, T, N)) (hstk : av.reverse ++ .ref b :: st = stk) (hR : zRm R d' mc' ms' k j) (hna : av.length = na) (hsum : (st.map fun v => v.category).sum ≤ 8)
    (kk : zJ X R M Q false (k + mc') (j + ms') h' n' (pc + 3) lv st) : zJ X R M Q false k j h n pc lv stk := z_callV hd g hC hb hc hci hstk hR hna hsum (fun h9 => nomatch h9) kk
end ZV
theorem zb_f (b : Bool) : fits .boolean (.int (zb b)) = true := by cases b <;> decide
