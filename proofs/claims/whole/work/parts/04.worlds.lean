/-! the worlds: a datagram, the house, the reference -/
section FS
variable {p : Program} {l : Launch} {e : Env} {R : Room} {s : State} {m : MethodId} {args : Array Value} {below : List Frame} {meth : Method} {c : Code} {cells slots : Nat} {Q : State → Prop} {locs : List Loc}
theorem fh_start {g : JFrame} (k : ∀ H : Heap, H = s.heap → W p l e R s m args below meth c H locs cells slots Q g) : W p l e R s m args below meth c s.heap locs cells slots Q g := k s.heap rfl
end FS
/-- a datagram of the class: its ints by the number of the field, its cells -/
abbrev Dg : Type := (Nat → Int32) × (Nat → Int32)
abbrev fD (c : Nat) (f : Nat → Int32) : List Value := [.ref c, .int (f 1), .int (f 2), .int (f 3), .int (f 4), .int (f 5), .int (f 6), .int (f 7), .int (f 8)]
abbrev eD (c : Nat) (f : Nat → Int32) : va_E := .inr (0, fD c f)
abbrev eI (cI : ClassId) (n : Nat) (x : Nat → Int32) : va_E := .inl (cI, n, .inl x)
abbrev wD (cI : ClassId) (h c : Nat) (f x : Nat → Int32) : va_W := [(h, eD c f), (c, eI cI 4096 x)]
abbrev wDs (cI : ClassId) (h c t : Nat) (f x T : Nat → Int32) : va_W := [(h, eD c f), (c, eI cI 4096 x), (t, eI cI 1480 T)]
abbrev tDg : FieldType := .object "FragmentHouse$Datagram"
/-- the house: h itself, tr its tray, sl its slots, dw and cw the latest whole one and its cells, D i and C i those of slot i -/
def wH (cI cS : ClassId) (h tr sl dw cw : Nat) (D C : Nat → Nat) (T : Nat → Int32) (n wc nw : Int32) (ds : Nat → Dg) (wd : Dg) : va_W :=
  [(h, .inr (1, [.ref tr, .ref sl, .ref dw, .int n, .int wc, .int nw])), (tr, eI cI 1480 T), (sl, .inl (cS, 4, .inr (.inr (.inr (.inr (fun j => some (D j))))))), (dw, eD cw wd.1), (cw, eI cI 4096 wd.2),
   (D 0, eD (C 0) (ds 0).1), (C 0, eI cI 4096 (ds 0).2), (D 1, eD (C 1) (ds 1).1), (C 1, eI cI 4096 (ds 1).2), (D 2, eD (C 2) (ds 2).1), (C 2, eI cI 4096 (ds 2).2), (D 3, eD (C 3) (ds 3).1), (C 3, eI cI 4096 (ds 3).2)]
section WH
variable {cI cS : ClassId} {h tr sl dw cw : Nat} {D C : Nat → Nat} {T : Nat → Int32} {n wc nw : Int32} {ds : Nat → Dg} {wd : Dg} {i : Nat}
theorem lt4 (hi : i < 4) : i = 0 ∨ i = 1 ∨ i = 2 ∨ i = 3 := by omega
theorem wH_o (hi : i < 4) : (wH cI cS h tr sl dw cw D C T n wc nw ds wd)[5 + 2 * i]? = some (D i, eD (C i) (ds i).1) := by
  rcases lt4 hi with rfl | rfl | rfl | rfl <;> rfl
theorem wH_so (hi : i < 4) (f : Nat → Int32) : (wH cI cS h tr sl dw cw D C T n wc nw ds wd).set (5 + 2 * i) (D i, eD (C i) f) = wH cI cS h tr sl dw cw D C T n wc nw (va_up ds i (f, (ds i).2)) wd := by
  rcases lt4 hi with rfl | rfl | rfl | rfl <;> rfl
/-- slot i's two cells out, and back -/
theorem wH_cut (hi : i < 4) : ∃ (wr : va_W) (isC isR isB : List Nat), va_nd isC = true ∧ isC.map (fun k => (wH cI cS h tr sl dw cw D C T n wc nw ds wd)[k]?) = (wD cI (D i) (C i) (ds i).1 (ds i).2).map some ∧ isR.map (fun k => (wH cI cS h tr sl dw cw D C T n wc nw ds wd)[k]?) = wr.map some ∧ va_nd isR = true ∧ (∀ k ∈ isR, k ∉ isC) ∧ va_nd isB = true ∧ ∀ (f x : Nat → Int32), isB.map (fun k => (wr ++ wD cI (D i) (C i) f x)[k]?) = (wH cI cS h tr sl dw cw D C T n wc nw (va_up ds i (f, x)) wd).map some := by
  rcases lt4 hi with rfl | rfl | rfl | rfl
  · exact ⟨[0, 1, 2, 3, 4, 7, 8, 9, 10, 11, 12].filterMap (fun k => (wH cI cS h tr sl dw cw D C T n wc nw ds wd)[k]?), [5, 6], [0, 1, 2, 3, 4, 7, 8, 9, 10, 11, 12], [0, 1, 2, 3, 4, 11, 12, 5, 6, 7, 8, 9, 10], by decide, rfl, rfl, by decide, by decide, by decide, fun _ _ => rfl⟩
  · exact ⟨[0, 1, 2, 3, 4, 5, 6, 9, 10, 11, 12].filterMap (fun k => (wH cI cS h tr sl dw cw D C T n wc nw ds wd)[k]?), [7, 8], [0, 1, 2, 3, 4, 5, 6, 9, 10, 11, 12], [0, 1, 2, 3, 4, 5, 6, 11, 12, 7, 8, 9, 10], by decide, rfl, rfl, by decide, by decide, by decide, fun _ _ => rfl⟩
  · exact ⟨[0, 1, 2, 3, 4, 5, 6, 7, 8, 11, 12].filterMap (fun k => (wH cI cS h tr sl dw cw D C T n wc nw ds wd)[k]?), [9, 10], [0, 1, 2, 3, 4, 5, 6, 7, 8, 11, 12], [0, 1, 2, 3, 4, 5, 6, 7, 8, 11, 12, 9, 10], by decide, rfl, rfl, by decide, by decide, by decide, fun _ _ => rfl⟩
  · exact ⟨[0, 1, 2, 3, 4, 5, 6, 7, 8, 9, 10].filterMap (fun k => (wH cI cS h tr sl dw cw D C T n wc nw ds wd)[k]?), [11, 12], [0, 1, 2, 3, 4, 5, 6, 7, 8, 9, 10], [0, 1, 2, 3, 4, 5, 6, 7, 8, 9, 10, 11, 12], by decide, rfl, rfl, by decide, by decide, by decide, fun _ _ => rfl⟩
/-- slot i's two cells and the tray out, and back -/
theorem wH_cutT (hi : i < 4) : ∃ (wr : va_W) (isC isR isB : List Nat), va_nd isC = true ∧ isC.map (fun k => (wH cI cS h tr sl dw cw D C T n wc nw ds wd)[k]?) = (wDs cI (D i) (C i) tr (ds i).1 (ds i).2 T).map some ∧ isR.map (fun k => (wH cI cS h tr sl dw cw D C T n wc nw ds wd)[k]?) = wr.map some ∧ va_nd isR = true ∧ (∀ k ∈ isR, k ∉ isC) ∧ va_nd isB = true ∧ ∀ (f x : Nat → Int32), isB.map (fun k => (wr ++ wDs cI (D i) (C i) tr f x T)[k]?) = (wH cI cS h tr sl dw cw D C T n wc nw (va_up ds i (f, x)) wd).map some := by
  rcases lt4 hi with rfl | rfl | rfl | rfl
  · exact ⟨[0, 2, 3, 4, 7, 8, 9, 10, 11, 12].filterMap (fun k => (wH cI cS h tr sl dw cw D C T n wc nw ds wd)[k]?), [5, 6, 1], [0, 2, 3, 4, 7, 8, 9, 10, 11, 12], [0, 12, 1, 2, 3, 10, 11, 4, 5, 6, 7, 8, 9], by decide, rfl, rfl, by decide, by decide, by decide, fun _ _ => rfl⟩
  · exact ⟨[0, 2, 3, 4, 5, 6, 9, 10, 11, 12].filterMap (fun k => (wH cI cS h tr sl dw cw D C T n wc nw ds wd)[k]?), [7, 8, 1], [0, 2, 3, 4, 5, 6, 9, 10, 11, 12], [0, 12, 1, 2, 3, 4, 5, 10, 11, 6, 7, 8, 9], by decide, rfl, rfl, by decide, by decide, by decide, fun _ _ => rfl⟩
  · exact ⟨[0, 2, 3, 4, 5, 6, 7, 8, 11, 12].filterMap (fun k => (wH cI cS h tr sl dw cw D C T n wc nw ds wd)[k]?), [9, 10, 1], [0, 2, 3, 4, 5, 6, 7, 8, 11, 12], [0, 12, 1, 2, 3, 4, 5, 6, 7, 10, 11, 8, 9], by decide, rfl, rfl, by decide, by decide, by decide, fun _ _ => rfl⟩
  · exact ⟨[0, 2, 3, 4, 5, 6, 7, 8, 9, 10].filterMap (fun k => (wH cI cS h tr sl dw cw D C T n wc nw ds wd)[k]?), [11, 12, 1], [0, 2, 3, 4, 5, 6, 7, 8, 9, 10], [0, 12, 1, 2, 3, 4, 5, 6, 7, 8, 9, 10, 11], by decide, rfl, rfl, by decide, by decide, by decide, fun _ _ => rfl⟩
end WH
/-- the reference: a 0 itself, a 1 .. a 9 its rows -/
def wM (cI cB cZ : ClassId) (a : Nat → Nat) (T se id pr en be th bs wh : Nat → Int32) (n len md nw : Int32) : va_W :=
  [(a 0, .inr (2, [.ref (a 1), .int n, .ref (a 2), .ref (a 3), .ref (a 4), .ref (a 5), .ref (a 6), .ref (a 7), .ref (a 8), .ref (a 9), .int len, .int md, .int nw])), (a 1, .inl (cB, 1480, .inl T)), (a 2, eI cI 4 se), (a 3, eI cI 4 id), (a 4, eI cI 4 pr), (a 5, eI cI 4 en), (a 6, eI cI 4 be), (a 7, .inl (cZ, 4, .inl th)), (a 8, eI cI 16384 bs), (a 9, eI cI 4096 wh)]
