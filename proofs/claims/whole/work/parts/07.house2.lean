/-! the house's slots: slotFor, showWhole, join, take -/
section FK5
variable {p : Program} {l : Launch} {e : Env} {R : Room} {s : State} {m : MethodId} {args : Array Value} {below : List Frame} {meth : Method} {c : Code} {H H0 : Heap} {locs : List Loc} {cells slots : Nat} {Q : State → Prop} {cc : ByteArray} {pc : Nat} {ls : Array Slot} {rest : List Value} {D : va_G} {cl : List vw_C} {tys : List (ClassId × FieldType)} {ws : va_W} {A : Nat → Prop} {a : Nat}
theorem fh_aast (hexec : p.tables.exec = Jvm.exec) (hb : c.code = cc) (hK : va_K D cl tys s) (hP : va_P D cl ws H) (hD : va_D A ws) (hS : va_S A H0 H locs) (q0 t0 qk ci : Nat) {cA : ClassId} {r : vw_C} {n v k : Nat} {vs : List Value} {f : Nat → Option Nat} (ha : ws[q0]? = some (a, .inl (cA, n, .inr (.inr (.inr (.inr f)))))) (ht : tys[t0]? = some (cA, .object r.1)) (hv : ws[qk]? = some (v, .inr (ci, vs))) (hc : cl[ci]? = some r) (hk : k < n) (hn : n < 2 ^ 31) (hdg : decode cc pc = .ok (.aastore, 1))
    (kk : ∀ (H1 : Heap) (locs1 : List Loc), va_P D cl (ws.set q0 (a, .inl (cA, n, .inr (.inr (.inr (.inr (va_up f k (some v)))))))) H1 → va_D A (ws.set q0 (a, .inl (cA, n, .inr (.inr (.inr (.inr (va_up f k (some v)))))))) → va_S A H0 H1 locs1 → W p l e R s m args below meth c H1 locs1 cells slots Q (F0 m (pc + 1) ls rest)) : W p l e R s m args below meth c H locs cells slots Q (F0 m pc ls (.ref v :: .int (nI k) :: .ref a :: rest)) := by
  refine va_astq hexec hb hK hP hD hS q0 t0 qk ci ha ht hv hc (vp_in_nI hk hn) hdg ?_
  rw [nI_clamp (Nat.lt_trans hk hn)]
  exact kk
end FK5
theorem vu_s {α : Type} (f : Nat → α) (i : Nat) (v : α) : va_up f i v i = v := if_pos rfl
theorem vu_n {α : Type} (f : Nat → α) {i j : Nat} (v : α) (h : j ≠ i) : va_up f i v j = f j := if_neg h
theorem vu_id {α : Type} (f : Nat → α) (i : Nat) : va_up f i (f i) = f := by
  funext j
  unfold va_up
  by_cases hj : j = i
  · rw [if_pos hj, hj]
  · rw [if_neg hj]
theorem nI_m1 {i : Nat} (hi : i < 4) : nI i ≠ -1 := by
  rcases lt4 hi with rfl | rfl | rfl | rfl <;> decide
def Kx (f : Nat → Int32) (a b c : Int32) : Prop := f 2 = a ∧ f 3 = b ∧ f 4 = c
/-- slotFor: the slot that is in the making for that key; else a free one, begun; else none -/
def SF (ds : Nat → Dg) (a b c t : Int32) (r : Int32) (u : Nat → Dg) : Prop :=
  (∃ i, i < 4 ∧ r = nI i ∧ (ds i).1 1 ≠ 0 ∧ Kx (ds i).1 a b c ∧ u = ds) ∨
  ((∀ j, j < 4 → (ds j).1 1 ≠ 0 → ¬ Kx (ds j).1 a b c) ∧
    ((∃ (i : Nat) (x : Nat → Int32), i < 4 ∧ r = nI i ∧ (ds i).1 1 = 0 ∧ (∀ j, j < 4096 → x j = -1) ∧ u = va_up ds i (bg (ds i).1 a b c t, x)) ∨
     (r = -1 ∧ (∀ j, j < 4 → (ds j).1 1 ≠ 0) ∧ u = ds)))
/-- a datagram behind a fragment of b bytes at a -/
def jD (f x : Nat → Int32) (a b : Nat) (T : Nat → Int32) (l : Int32) : Dg := (upd (nR f (nI (a + b)) l) 8 (nR f (nI (a + b)) l 8 + nI (cn x a b)), pt x a b T)
def Wh (d : Dg) : Prop := d.1 6 ≠ -1 ∧ d.1 8 = d.1 6
abbrev Sj : Type := (Nat → Nat) × (Nat → Nat) × Nat × Nat × Int32 × (Nat → Dg) × Dg
def JN (D C : Nat → Nat) (dw cw : Nat) (wc : Int32) (ds : Nat → Dg) (wd : Dg) (T : Nat → Int32) (i a b : Nat) (l : Int32) (r : Int32) (u : Sj) : Prop :=
  (Ctr (ds i).1 (nI (a + b)) l ∧ r = -3 ∧ u = (D, C, dw, cw, wc, va_up ds i (upd (ds i).1 1 0, (ds i).2), wd)) ∨
  (¬ Ctr (ds i).1 (nI (a + b)) l ∧
    ((¬ Wh (jD (ds i).1 (ds i).2 a b T l) ∧ r = -1 ∧ u = (D, C, dw, cw, wc, va_up ds i (jD (ds i).1 (ds i).2 a b T l), wd)) ∨
     (Wh (jD (ds i).1 (ds i).2 a b T l) ∧ r = (jD (ds i).1 (ds i).2 a b T l).1 6 ∧ u = (va_up D i dw, va_up C i cw, D i, C i, wc + 1, va_up ds i wd, (upd (jD (ds i).1 (ds i).2 a b T l).1 1 0, (jD (ds i).1 (ds i).2 a b T l).2)))))
def TK (D C : Nat → Nat) (dw cw : Nat) (wc nw : Int32) (ds : Nat → Dg) (wd : Dg) (T : Nat → Int32) (q : Nat) (p1 p2 p3 p4 p5 : Int32) (r : Int32) (u : Nat × Sj) : Prop :=
  (r = -4 ∧ (p4 < 0 ∨ ¬ p4 ≤ nI 8191) ∧ u = (q, D, C, dw, cw, wc, ds, wd)) ∨
  (∃ o, o ≤ 8191 ∧ p4 = nI o ∧
    ((¬ Snd (o * 8) q p5 ∧ r = -2 ∧ u = (0, D, C, dw, cw, wc, ds, wd)) ∨
     (Snd (o * 8) q p5 ∧ ∃ (r8 : Int32) (ds1 : Nat → Dg), SF ds p1 p2 p3 nw r8 ds1 ∧
       ((r8 = -1 ∧ r = -2 ∧ u = (0, D, C, dw, cw, wc, ds1, wd)) ∨
        (∃ i, i < 4 ∧ r8 = nI i ∧ ∃ v : Sj, JN D C dw cw wc ds1 wd T i (o * 8) q p5 r v ∧ u = (0, v))))))
/-- the house while slots[i] and latestWhole change places -/
def wG (cI cS : ClassId) (h tr sl lw dw cw : Nat) (F : Nat → Option Nat) (D C : Nat → Nat) (T : Nat → Int32) (n wc nw : Int32) (ds : Nat → Dg) (wd : Dg) : va_W :=
  [(h, .inr (1, [.ref tr, .ref sl, .ref lw, .int n, .int wc, .int nw])), (tr, eI cI 1480 T), (sl, .inl (cS, 4, .inr (.inr (.inr (.inr F))))), (dw, eD cw wd.1), (cw, eI cI 4096 wd.2),
   (D 0, eD (C 0) (ds 0).1), (C 0, eI cI 4096 (ds 0).2), (D 1, eD (C 1) (ds 1).1), (C 1, eI cI 4096 (ds 1).2), (D 2, eD (C 2) (ds 2).1), (C 2, eI cI 4096 (ds 2).2), (D 3, eD (C 3) (ds 3).1), (C 3, eI cI 4096 (ds 3).2)]
section WG
variable {cI cS : ClassId} {h tr sl dw cw : Nat} {D C : Nat → Nat} {T : Nat → Int32} {n wc nw : Int32} {ds : Nat → Dg} {wd : Dg} {i : Nat} {H : Heap} {A : Nat → Prop} {G : va_G} {cl : List vw_C}
theorem wG_fun : va_up (fun j => some (D j)) i (some dw) = fun j => some (va_up D i dw j) := by
  funext j
  unfold va_up
  by_cases hj : j = i
  · rw [if_pos hj, if_pos hj]
  · rw [if_neg hj, if_neg hj]
theorem wG_swapP (hi : i < 4) (hP : va_P G cl (wG cI cS h tr sl (D i) dw cw (va_up (fun j => some (D j)) i (some dw)) D C T n wc nw ds wd) H) : va_P G cl (wH cI cS h tr sl (D i) (C i) (va_up D i dw) (va_up C i cw) T n wc nw (va_up ds i wd) (ds i)) H := by
  rw [wG_fun] at hP
  rcases lt4 hi with rfl | rfl | rfl | rfl
  · exact hP.sub [0, 1, 2, 5, 6, 3, 4, 7, 8, 9, 10, 11, 12] rfl
  · exact hP.sub [0, 1, 2, 7, 8, 5, 6, 3, 4, 9, 10, 11, 12] rfl
  · exact hP.sub [0, 1, 2, 9, 10, 5, 6, 7, 8, 3, 4, 11, 12] rfl
  · exact hP.sub [0, 1, 2, 11, 12, 5, 6, 7, 8, 9, 10, 3, 4] rfl
theorem wG_swapD (hi : i < 4) (hD : va_D A (wG cI cS h tr sl (D i) dw cw (va_up (fun j => some (D j)) i (some dw)) D C T n wc nw ds wd)) : va_D A (wH cI cS h tr sl (D i) (C i) (va_up D i dw) (va_up C i cw) T n wc nw (va_up ds i wd) (ds i)) := by
  rw [wG_fun] at hD
  rcases lt4 hi with rfl | rfl | rfl | rfl
  · exact hD.sub [0, 1, 2, 5, 6, 3, 4, 7, 8, 9, 10, 11, 12] (by decide) rfl
  · exact hD.sub [0, 1, 2, 7, 8, 5, 6, 3, 4, 9, 10, 11, 12] (by decide) rfl
  · exact hD.sub [0, 1, 2, 9, 10, 5, 6, 7, 8, 3, 4, 11, 12] (by decide) rfl
  · exact hD.sub [0, 1, 2, 11, 12, 5, 6, 7, 8, 9, 10, 3, 4] (by decide) rfl
end WG
set_option maxHeartbeats 4000000 in
set_option maxRecDepth 100000 in
/-- slotFor -/
theorem c_slotFor (l : Launch) (dC : Nat → ClassId) (dI : Nat → Nat → Nat) (cI cS : ClassId) (h tr sl dw cw : Nat) (D C : Nat → Nat) (T : Nat → Int32) (n wc nw : Int32) (ds : Nat → Dg) (wd : Dg) (p1 p2 p3 : Int32) (sz : Nat)  : Met l yX1_slotFor wsX1_slotFor ({ frames := 2, cells := 0, slots := 0, locals := 48 }) (va_Pc [.ref h, .int p1, .int p2, .int p3] (PW (dC, dI) vwCl [(cI, .int), (cS, tDg)] (wH cI cS h tr sl dw cw D C T n wc nw ds wd) sz)) (va_Qi (S := Nat → Dg) (fun r u => SF ds p1 p2 p3 nw r u) (QW (dC, dI) vwCl (fun _ => [(cI, .int), (cS, tDg)]) (va_A (wH cI cS h tr sl dw cw D C T n wc nw ds wd) sz) (fun u => wH cI cS h tr sl dw cw D C T n wc nw u wd)) (va_A (wH cI cS h tr sl dw cw D C T n wc nw ds wd) sz)) 0 0 (va_A (wH cI cS h tr sl dw cw D C T n wc nw ds wd) sz) := by
  refine Met.ofW (cc := cX1_slotFor) (maxL := 6) (ret := (some .int)) (by decide) rfl ?_
  intro p e s m args below meth c s₁ B hml hv
  obtain ⟨rfl, hsz, hP, hK, hD0⟩ := hv
  have hx := B.exec
  have hb := B.bytes
  have hr := B.returns
  have hts := atoms_spec (ws := wsX1_slotFor) B.pre
  have hown : s.vm.findClass RX1 = some m.cls := findClass_of_methodNamed B.named
  have hlocks := B.notSynchronized
  subst hsz
  have hD := hD0.self (sz := s.heap.size)
  generalize hAe : va_A (wH cI cS h tr sl dw cw D C T n wc nw ds wd) s.heap.size = A at hD ⊢
  have hA : ∀ q : Nat, s.heap.size ≤ q → A q := fun q h => by rw [← hAe]; exact Or.inr h
  have hS : va_S A s.heap s.heap [] := va_S.rf
  have hl := lv_entry ([.ref h, .int p1, .int p2, .int p3]) (n := 6) (Nat.le_of_ble_eq_true rfl)
  rw [lg_entry_eq]
  generalize (lg_sl ([.ref h, .int p1, .int p2, .int p3]) ++ List.replicate (6 - (lg_sl ([.ref h, .int p1, .int p2, .int p3])).length) Slot.unset).toArray = ls at hl ⊢
  have hl : lv_has ls 6 [(0, .ref h), (1, .int p1), (2, .int p2), (3, .int p3)] := hl
  refine fh_start (fun H hH => ?_)
  have hP : va_P (dC, dI) vwCl (wH cI cS h tr sl dw cw D C T n wc nw ds wd) H := by rw [hH]; exact hP
  have hS : va_S A s.heap H [] := by rw [hH]; exact va_S.rf
  refine lv_iconst (v := (-1)) hx hb dX1_slotFor_0 (by first | decide | rfl) ?_
  refine lv_istore (lv' := [(4, .int ((-1))), (0, .ref h), (1, .int p1), (2, .int p2), (3, .int p3)]) hx hb dX1_slotFor_1 hl (by decide) rfl (fun ls hl => ?_)
  refine lv_iconst (v := nI 0) hx hb dX1_slotFor_3 (by first | decide | rfl) ?_
  refine lv_istore (lv' := [(5, .int (nI 0)), (4, .int ((-1))), (0, .ref h), (1, .int p1), (2, .int p2), (3, .int p3)]) hx hb dX1_slotFor_4 hl (by decide) rfl (fun ls hl => ?_)
  refine fh_loop (σ := Nat × Int32) (fun q9 H locs ls => (q9.1 ≤ 4) ∧ ((q9.2 = -1 ∧ ∀ j, j < q9.1 → (ds j).1 1 ≠ 0) ∨ ∃ q, q < q9.1 ∧ q9.2 = nI q ∧ (ds q).1 1 = 0) ∧ (∀ j, j < q9.1 → (ds j).1 1 ≠ 0 → ¬ Kx (ds j).1 p1 p2 p3) ∧ va_P (dC, dI) vwCl (wH cI cS h tr sl dw cw D C T n wc nw ds wd) H ∧ va_D A (wH cI cS h tr sl dw cw D C T n wc nw ds wd) ∧ va_S A s.heap H locs ∧ lv_has ls 6 [(0, .ref h), (1, .int p1), (2, .int p2), (3, .int p3), (4, .int q9.2), (5, .int (nI q9.1))]) (fun q9 => 4 - q9.1) ?_ (0, -1) ⟨Nat.zero_le _, Or.inl ⟨rfl, fun j h => absurd h (Nat.not_lt_zero _)⟩, fun j h => absurd h (Nat.not_lt_zero _), hP, hD, hS, lv_sub hl [2, 3, 4, 5, 1, 0] rfl⟩
  intro q9 H locs ls hI ih
  obtain ⟨i, fr⟩ := q9
  obtain ⟨hi, hfr, hno, hP, hD, hS, hl⟩ : (i ≤ 4) ∧ ((fr = -1 ∧ ∀ j, j < i → (ds j).1 1 ≠ 0) ∨ ∃ q, q < i ∧ fr = nI q ∧ (ds q).1 1 = 0) ∧ (∀ j, j < i → (ds j).1 1 ≠ 0 → ¬ Kx (ds j).1 p1 p2 p3) ∧ va_P (dC, dI) vwCl (wH cI cS h tr sl dw cw D C T n wc nw ds wd) H ∧ va_D A (wH cI cS h tr sl dw cw D C T n wc nw ds wd) ∧ va_S A s.heap H locs ∧ lv_has ls 6 [(0, .ref h), (1, .int p1), (2, .int p2), (3, .int p3), (4, .int fr), (5, .int (nI i))] := hI
  refine lv_iload hx hb dX1_slotFor_6 (lv_at hl 5 rfl) ?_
  refine lv_iconst (v := nI 4) hx hb dX1_slotFor_8 (by first | decide | rfl) ?_
  refine lv_icmp_ge (tgt := 57) hx hb dX1_slotFor_9 (by decide) (fun c9 => ?_) (fun c9 => ?_)
  · skip
    have hge : 4 ≤ i := (nI_leI (by decide) (by omega)).mp c9
    refine lv_iload hx hb dX1_slotFor_57 (lv_at hl 4 rfl) ?_
    refine lv_iconst (v := (-1)) hx hb dX1_slotFor_59 (by first | decide | rfl) ?_
    refine lv_icmp_eq (tgt := 80) hx hb dX1_slotFor_60 (by decide) (fun c60 => ?_) (fun c60 => ?_)
    · skip
      obtain ⟨-, hall⟩ := hfr.resolve_right (fun ⟨q, hq, e, _⟩ => nI_m1 (by omega) (e.symm.trans c60))
      refine lv_iload hx hb dX1_slotFor_80 (lv_at hl 4 rfl) ?_
      exact W.iret hx hb hr (fh_qi ds (Or.inr ⟨fun j hj => hno j (by omega), Or.inr ⟨c60, fun j hj => hall j (by omega), rfl⟩⟩) hP hK hD hS) hS.2.2 dX1_slotFor_82
    · skip
      obtain ⟨q, hq, rfl, hq0⟩ : ∃ q, q < i ∧ fr = nI q ∧ (ds q).1 1 = 0 := hfr.resolve_left (fun z => c60 z.1)
      have hq4 : q < 4 := by omega
      refine lv_aload_n hx hb dX1_slotFor_63 rfl (lv_at hl 0 rfl) ?_
      refine va_get (D := (dC, dI)) (ci := 1) (v := .ref sl) (C := RX1) (T := TX1) (N := 6) hx hb hts (by decide +kernel) hown hK hP 0 rfl rfl 1 (by decide) (hts (.fieldLink RX1 15 "FragmentHouse" "slots" "[LFragmentHouse$Datagram;") (by decide +kernel)) (fun _ h9 => h9) rfl dX1_slotFor_64 ?_
      refine lv_iload hx hb dX1_slotFor_67 (lv_at hl 4 rfl) ?_
      refine fh_aald (k := q) hx hb hK hP 2 1 rfl rfl hq4 (by decide) rfl dX1_slotFor_69 ?_
      refine lv_iload_n hx hb dX1_slotFor_70 rfl (lv_at hl 1 rfl) ?_
      refine lv_iload_n hx hb dX1_slotFor_71 rfl (lv_at hl 2 rfl) ?_
      refine lv_iload_n hx hb dX1_slotFor_72 rfl (lv_at hl 3 rfl) ?_
      refine lv_aload_n hx hb dX1_slotFor_73 rfl (lv_at hl 0 rfl) ?_
      refine va_get (D := (dC, dI)) (ci := 1) (v := .int nw) (C := RX1) (T := TX1) (N := 6) hx hb hts (by decide +kernel) hown hK hP 0 rfl rfl 5 (by decide) (hts (.fieldLink RX1 31 "FragmentHouse" "now" "I") (by decide +kernel)) (fun _ h9 => h9) rfl dX1_slotFor_74 ?_
      have hK0 := hK
      have hK : va_K (dC, dI) vwCl [(cI, .int)] s := hK.sub [0] rfl
      obtain ⟨wr, isC, isR, isB, hnC, hC, hR, hn, hdis, hnB, hB⟩ := wH_cut (cI := cI) (cS := cS) (h := h) (tr := tr) (sl := sl) (dw := dw) (cw := cw) (D := D) (C := C) (T := T) (n := n) (wc := wc) (nw := nw) (ds := ds) (wd := wd) hq4
      have hPc := hP.sub isC (fm_map hC)
      have hDc := hD.sub isC hnC hC
      refine fh_cv (w2 := fun u => wH cI cS h tr sl dw cw D C T n wc nw (va_up ds q (u.1, u.2)) wd) (va_runV (As := [.int p1, .int p2, .int p3, .int nw]) (rest := []) ⟨hx, hb, hml, hown, hts⟩ (c_begin l dC dI cI (D q) (C q) (ds q).1 (ds q).2 p1 p2 p3 nw H.size) (cwV 4 hts gX1_slotFor_X0_begin rfl rfl rfl (by decide +kernel) ⟨Nat.le_of_ble_eq_true rfl, Nat.le_of_ble_eq_true rfl⟩) (pV_PW hK hPc hDc (ci := 0) (q0 := 0) rfl rfl) rfl rfl hl.1 rfl (lv_room (Nat.le_of_ble_eq_true rfl)) dX1_slotFor_77 ⟨Nat.zero_le _, Nat.zero_le _⟩) hP hD hS hA isC isR isB hC hR hn hdis hnB (fun u => hB u.1 u.2) (fun u H locs hw hK hP hD hS => ?_)
      have hK : va_K (dC, dI) vwCl [(cI, .int), (cS, tDg)] s := hK0
      have hP : va_P (dC, dI) vwCl (wH cI cS h tr sl dw cw D C T n wc nw (va_up ds q (u.1, u.2)) wd) H := hP
      have hD : va_D A (wH cI cS h tr sl dw cw D C T n wc nw (va_up ds q (u.1, u.2)) wd) := hD
      refine lv_iload hx hb dX1_slotFor_80 (lv_at hl 4 rfl) ?_
      exact W.iret hx hb hr (fh_qi (va_up ds q (u.1, u.2)) (Or.inr ⟨fun j hj => hno j (by omega), Or.inl ⟨q, u.2, hq4, rfl, hq0, hw.2, by rw [hw.1]⟩⟩) hP hK hD hS) hS.2.2 dX1_slotFor_82
  · skip
    have hlt : i < 4 := Nat.lt_of_not_le (fun h => c9 (nI_le h (by omega)))
    refine lv_aload_n hx hb dX1_slotFor_12 rfl (lv_at hl 0 rfl) ?_
    refine va_get (D := (dC, dI)) (ci := 1) (v := .ref sl) (C := RX1) (T := TX1) (N := 6) hx hb hts (by decide +kernel) hown hK hP 0 rfl rfl 1 (by decide) (hts (.fieldLink RX1 15 "FragmentHouse" "slots" "[LFragmentHouse$Datagram;") (by decide +kernel)) (fun _ h9 => h9) rfl dX1_slotFor_13 ?_
    refine lv_iload hx hb dX1_slotFor_16 (lv_at hl 5 rfl) ?_
    refine fh_aald (k := i) hx hb hK hP 2 1 rfl rfl hlt (by decide) rfl dX1_slotFor_18 ?_
    refine va_get (D := (dC, dI)) (ci := 0) (v := .int ((ds i).1 1)) (C := RX0) (T := TX0) (N := 9) hx hb hts (by decide +kernel) hown hK hP (5 + 2 * i) (wH_o hlt) rfl 1 (by decide) (hts (.fieldLink RX1 51 "FragmentHouse$Datagram" "inMaking" "Z") (by decide +kernel)) (fun _ h9 => h9) rfl dX1_slotFor_19 ?_
    refine lv_if_ne (tgt := 32) hx hb dX1_slotFor_22 (by decide) (fun c22 => ?_) (fun c22 => ?_)
    · skip
      refine lv_aload_n hx hb dX1_slotFor_32 rfl (lv_at hl 0 rfl) ?_
      refine va_get (D := (dC, dI)) (ci := 1) (v := .ref sl) (C := RX1) (T := TX1) (N := 6) hx hb hts (by decide +kernel) hown hK hP 0 rfl rfl 1 (by decide) (hts (.fieldLink RX1 15 "FragmentHouse" "slots" "[LFragmentHouse$Datagram;") (by decide +kernel)) (fun _ h9 => h9) rfl dX1_slotFor_33 ?_
      refine lv_iload hx hb dX1_slotFor_36 (lv_at hl 5 rfl) ?_
      refine fh_aald (k := i) hx hb hK hP 2 1 rfl rfl hlt (by decide) rfl dX1_slotFor_38 ?_
      refine lv_iload_n hx hb dX1_slotFor_39 rfl (lv_at hl 1 rfl) ?_
      refine lv_iload_n hx hb dX1_slotFor_40 rfl (lv_at hl 2 rfl) ?_
      refine lv_iload_n hx hb dX1_slotFor_41 rfl (lv_at hl 3 rfl) ?_
      have hK0 := hK
      have hK : va_K (dC, dI) vwCl [(cI, .int)] s := hK.sub [0] rfl
      obtain ⟨wr, isC, isR, isB, hnC, hC, hR, hn, hdis, hnB, hB⟩ := wH_cut (cI := cI) (cS := cS) (h := h) (tr := tr) (sl := sl) (dw := dw) (cw := cw) (D := D) (C := C) (T := T) (n := n) (wc := wc) (nw := nw) (ds := ds) (wd := wd) hlt
      have hPc := hP.sub isC (fm_map hC)
      have hDc := hD.sub isC hnC hC
      have hB0 := hB (ds i).1 (ds i).2
      rw [show va_up ds i ((ds i).1, (ds i).2) = ds from vu_id ds i] at hB0
      refine fh_ci (w2 := fun _ => wH cI cS h tr sl dw cw D C T n wc nw ds wd) (va_runV (As := [.int p1, .int p2, .int p3]) (rest := []) ⟨hx, hb, hml, hown, hts⟩ (c_isOf l dC dI cI (D i) (C i) (ds i).1 (ds i).2 p1 p2 p3 H.size) (cwV 3 hts gX1_slotFor_X0_isOf rfl rfl rfl (by decide +kernel) ⟨Nat.le_of_ble_eq_true rfl, Nat.le_of_ble_eq_true rfl⟩) (pV_PW hK hPc hDc (ci := 0) (q0 := 0) rfl rfl) rfl rfl hl.1 rfl (lv_room (Nat.le_of_ble_eq_true rfl)) dX1_slotFor_42 ⟨Nat.zero_le _, Nat.zero_le _⟩) hP hD hS hA isC isR isB hC hR hn hdis hnB (fun _ => hB0) (fun r _u H locs hw hK hP hD hS => ?_)
      have hK : va_K (dC, dI) vwCl [(cI, .int), (cS, tDg)] s := hK0
      refine lv_if_eq (tgt := 51) hx hb dX1_slotFor_45 (by decide) (fun c45 => ?_) (fun c45 => ?_)
      · skip
        refine lv_iinc (v := (nI (i + 1))) (lv' := [(5, .int (nI (i + 1))), (0, .ref h), (1, .int p1), (2, .int p2), (3, .int p3), (4, .int fr)]) hx hb dX1_slotFor_51 hl (k := 5) rfl (nI_1 i) (by decide) rfl (fun ls hl => ?_)
        refine lv_goto (tgt := 6) hx hb dX1_slotFor_54 (by decide) ?_
        exact ih (i + 1, fr) _ _ _ ⟨hlt, hfr.elim (fun z => Or.inl ⟨z.1, lt_s z.2 c22⟩) (fun ⟨q, h1, h2⟩ => Or.inr ⟨q, by omega, h2⟩), lt_s hno (fun _ => hw.elim (fun z => absurd (z.1.symm.trans c45) (by decide)) (fun z => z.2)), hP, hD, hS, lv_sub hl [1, 2, 3, 4, 5, 0] rfl⟩ (by show 4 - (i + 1) < 4 - i; omega)
      · skip
        refine lv_iload hx hb dX1_slotFor_48 (lv_at hl 5 rfl) ?_
        exact W.iret hx hb hr (fh_qi ds (Or.inl ⟨i, hlt, rfl, c22, hw.elim (fun z => z.2) (fun z => absurd z.1 c45), rfl⟩) hP hK hD hS) hS.2.2 dX1_slotFor_50
    · skip
      refine lv_iload hx hb dX1_slotFor_25 (lv_at hl 5 rfl) ?_
      refine lv_istore (lv' := [(4, .int (nI i)), (0, .ref h), (1, .int p1), (2, .int p2), (3, .int p3), (5, .int (nI i))]) hx hb dX1_slotFor_27 hl (by decide) rfl (fun ls hl => ?_)
      refine lv_goto (tgt := 51) hx hb dX1_slotFor_29 (by decide) ?_
      refine lv_iinc (v := (nI (i + 1))) (lv' := [(5, .int (nI (i + 1))), (4, .int (nI i)), (0, .ref h), (1, .int p1), (2, .int p2), (3, .int p3)]) hx hb dX1_slotFor_51 hl (k := 5) rfl (nI_1 i) (by decide) rfl (fun ls hl => ?_)
      refine lv_goto (tgt := 6) hx hb dX1_slotFor_54 (by decide) ?_
      exact ih (i + 1, nI i) _ _ _ ⟨hlt, Or.inr ⟨i, Nat.lt_succ_self i, rfl, c22⟩, lt_s hno (fun z => absurd c22 z), hP, hD, hS, lv_sub hl [2, 3, 4, 5, 1, 0] rfl⟩ (by show 4 - (i + 1) < 4 - i; omega)
set_option maxHeartbeats 4000000 in
set_option maxRecDepth 100000 in
/-- showWhole: slot i and the latest whole one change places -/
theorem c_showWhole (l : Launch) (dC : Nat → ClassId) (dI : Nat → Nat → Nat) (cI cS : ClassId) (h tr sl dw cw : Nat) (D C : Nat → Nat) (T : Nat → Int32) (n wc nw : Int32) (ds : Nat → Dg) (wd : Dg) (i : Nat) (sz : Nat) (hi : i < 4) : Met l yX1_showWhole wsX1_showWhole ({ frames := 0, cells := 0, slots := 0, locals := 0 }) (va_Pc [.ref h, .int (nI i)] (PW (dC, dI) vwCl [(cI, .int), (cS, tDg)] (wH cI cS h tr sl dw cw D C T n wc nw ds wd) sz)) (va_Qv (S := Unit) (fun _ => True) (QW (dC, dI) vwCl (fun _ => [(cI, .int), (cS, tDg)]) (va_A (wH cI cS h tr sl dw cw D C T n wc nw ds wd) sz) (fun _ => wH cI cS h tr sl (D i) (C i) (va_up D i dw) (va_up C i cw) T n (wc + 1) nw (va_up ds i wd) (upd (ds i).1 1 0, (ds i).2))) (va_A (wH cI cS h tr sl dw cw D C T n wc nw ds wd) sz)) 0 0 (va_A (wH cI cS h tr sl dw cw D C T n wc nw ds wd) sz) := by
  refine Met.ofW (cc := cX1_showWhole) (maxL := 3) (ret := none) (by decide) rfl ?_
  intro p e s m args below meth c s₁ B hml hv
  obtain ⟨rfl, hsz, hP, hK, hD0⟩ := hv
  have hx := B.exec
  have hb := B.bytes
  have hr := B.returns
  have hts := atoms_spec (ws := wsX1_showWhole) B.pre
  have hown : s.vm.findClass RX1 = some m.cls := findClass_of_methodNamed B.named
  have hlocks := B.notSynchronized
  subst hsz
  have hD := hD0.self (sz := s.heap.size)
  generalize hAe : va_A (wH cI cS h tr sl dw cw D C T n wc nw ds wd) s.heap.size = A at hD ⊢
  have hA : ∀ q : Nat, s.heap.size ≤ q → A q := fun q h => by rw [← hAe]; exact Or.inr h
  have hS : va_S A s.heap s.heap [] := va_S.rf
  have hl := lv_entry ([.ref h, .int (nI i)]) (n := 3) (Nat.le_of_ble_eq_true rfl)
  rw [lg_entry_eq]
  generalize (lg_sl ([.ref h, .int (nI i)]) ++ List.replicate (3 - (lg_sl ([.ref h, .int (nI i)])).length) Slot.unset).toArray = ls at hl ⊢
  have hl : lv_has ls 3 [(0, .ref h), (1, .int (nI i))] := hl
  refine fh_start (fun H hH => ?_)
  have hP : va_P (dC, dI) vwCl (wH cI cS h tr sl dw cw D C T n wc nw ds wd) H := by rw [hH]; exact hP
  have hS : va_S A s.heap H [] := by rw [hH]; exact va_S.rf
  refine lv_aload_n hx hb dX1_showWhole_0 rfl (lv_at hl 0 rfl) ?_
  refine va_get (D := (dC, dI)) (ci := 1) (v := .ref sl) (C := RX1) (T := TX1) (N := 6) hx hb hts (by decide +kernel) hown hK hP 0 rfl rfl 1 (by decide) (hts (.fieldLink RX1 15 "FragmentHouse" "slots" "[LFragmentHouse$Datagram;") (by decide +kernel)) (fun _ h9 => h9) rfl dX1_showWhole_1 ?_
  refine lv_iload_n hx hb dX1_showWhole_4 rfl (lv_at hl 1 rfl) ?_
  refine fh_aald (k := i) hx hb hK hP 2 1 rfl rfl hi (by decide) rfl dX1_showWhole_5 ?_
  refine lv_astore_n (lv' := [(2, .ref (D i)), (0, .ref h), (1, .int (nI i))]) hx hb dX1_showWhole_6 rfl hl (by decide) rfl (fun ls hl => ?_)
  refine lv_aload_n hx hb dX1_showWhole_7 rfl (lv_at hl 0 rfl) ?_
  refine lv_iconst (v := 0) hx hb dX1_showWhole_8 (by first | decide | rfl) ?_
  refine va_put (D := (dC, dI)) (ci := 0) (v := .int 0) (ty := .boolean) (C := RX0) (T := TX0) (N := 9) hx hb hts (by decide +kernel) tyX0 tyX0_ok nmX0 hown hK hP hD hS (5 + 2 * i) (wH_o hi) rfl 1 (by decide) (hts (.fieldLink RX1 51 "FragmentHouse$Datagram" "inMaking" "Z") (by decide +kernel)) (fun _ h9 => h9) rfl (by decide +kernel) rfl rfl (Nat.le_of_ble_eq_true rfl) dX1_showWhole_9 (fun H locs hP hD hS => ?_)
  have hP : va_P (dC, dI) vwCl (wH cI cS h tr sl dw cw D C T n wc nw (va_up ds i (upd (ds i).1 1 0, (ds i).2)) wd) H := by rw [← wH_so hi (upd (ds i).1 1 0)]; exact hP
  have hD : va_D A (wH cI cS h tr sl dw cw D C T n wc nw (va_up ds i (upd (ds i).1 1 0, (ds i).2)) wd) := by rw [← wH_so hi (upd (ds i).1 1 0)]; exact hD
  have hP : va_P (dC, dI) vwCl (wH cI cS h tr sl dw cw D C T n wc nw (va_up ds i (upd (ds i).1 1 0, (ds i).2)) wd) H := hP
  have hD : va_D A (wH cI cS h tr sl dw cw D C T n wc nw (va_up ds i (upd (ds i).1 1 0, (ds i).2)) wd) := hD
  refine lv_aload_n hx hb dX1_showWhole_12 rfl (lv_at hl 1 rfl) ?_
  refine va_get (D := (dC, dI)) (ci := 1) (v := .ref sl) (C := RX1) (T := TX1) (N := 6) hx hb hts (by decide +kernel) hown hK hP 0 rfl rfl 1 (by decide) (hts (.fieldLink RX1 15 "FragmentHouse" "slots" "[LFragmentHouse$Datagram;") (by decide +kernel)) (fun _ h9 => h9) rfl dX1_showWhole_13 ?_
  refine lv_iload_n hx hb dX1_showWhole_16 rfl (lv_at hl 2 rfl) ?_
  refine lv_aload_n hx hb dX1_showWhole_17 rfl (lv_at hl 1 rfl) ?_
  refine va_get (D := (dC, dI)) (ci := 1) (v := .ref dw) (C := RX1) (T := TX1) (N := 6) hx hb hts (by decide +kernel) hown hK hP 0 rfl rfl 2 (by decide) (hts (.fieldLink RX1 20 "FragmentHouse" "latestWhole" "LFragmentHouse$Datagram;") (by decide +kernel)) (fun _ h9 => h9) rfl dX1_showWhole_18 ?_
  refine fh_aast (k := i) (r := (RX0, TX0, 9)) hx hb hK hP hD hS 2 1 3 0 rfl rfl rfl rfl hi (by decide) dX1_showWhole_21 (fun H locs hP hD hS => ?_)
  have hP : va_P (dC, dI) vwCl (wG cI cS h tr sl dw dw cw (va_up (fun j => some (D j)) i (some dw)) D C T n wc nw (va_up ds i (upd (ds i).1 1 0, (ds i).2)) wd) H := hP
  have hD : va_D A (wG cI cS h tr sl dw dw cw (va_up (fun j => some (D j)) i (some dw)) D C T n wc nw (va_up ds i (upd (ds i).1 1 0, (ds i).2)) wd) := hD
  refine lv_aload_n hx hb dX1_showWhole_22 rfl (lv_at hl 1 rfl) ?_
  refine lv_aload_n hx hb dX1_showWhole_23 rfl (lv_at hl 0 rfl) ?_
  refine va_put (D := (dC, dI)) (ci := 1) (v := .ref (D i)) (ty := .object "FragmentHouse$Datagram") (C := RX1) (T := TX1) (N := 6) hx hb hts (by decide +kernel) tyX1 tyX1_ok nmX1 hown hK hP hD hS 0 rfl rfl 2 (by decide) (hts (.fieldLink RX1 20 "FragmentHouse" "latestWhole" "LFragmentHouse$Datagram;") (by decide +kernel)) (fun _ h9 => h9) rfl (by decide +kernel) rfl rfl (Nat.le_of_ble_eq_true rfl) dX1_showWhole_24 (fun H locs hP hD hS => ?_)
  have hP : va_P (dC, dI) vwCl (wG cI cS h tr sl ((D i)) dw cw (va_up (fun j => some (D j)) i (some dw)) D C T n wc nw (va_up ds i (upd (ds i).1 1 0, (ds i).2)) wd) H := hP
  have hD : va_D A (wG cI cS h tr sl ((D i)) dw cw (va_up (fun j => some (D j)) i (some dw)) D C T n wc nw (va_up ds i (upd (ds i).1 1 0, (ds i).2)) wd) := hD
  refine lv_aload_n hx hb dX1_showWhole_27 rfl (lv_at hl 1 rfl) ?_
  refine lv_dup hx hb dX1_showWhole_28 rfl ?_
  refine va_get (D := (dC, dI)) (ci := 1) (v := .int wc) (C := RX1) (T := TX1) (N := 6) hx hb hts (by decide +kernel) hown hK hP 0 rfl rfl 4 (by decide) (hts (.fieldLink RX1 28 "FragmentHouse" "wholeCount" "I") (by decide +kernel)) (fun _ h9 => h9) rfl dX1_showWhole_29 ?_
  refine lv_iconst (v := 1) hx hb dX1_showWhole_32 (by first | decide | rfl) ?_
  refine lv_iadd hx hb dX1_showWhole_33 ?_
  refine va_put (D := (dC, dI)) (ci := 1) (v := .int (wc + 1)) (ty := .int) (C := RX1) (T := TX1) (N := 6) hx hb hts (by decide +kernel) tyX1 tyX1_ok nmX1 hown hK hP hD hS 0 rfl rfl 4 (by decide) (hts (.fieldLink RX1 28 "FragmentHouse" "wholeCount" "I") (by decide +kernel)) (fun _ h9 => h9) rfl (by decide +kernel) rfl rfl (Nat.le_of_ble_eq_true rfl) dX1_showWhole_34 (fun H locs hP hD hS => ?_)
  have hP : va_P (dC, dI) vwCl (wG cI cS h tr sl ((D i)) dw cw (va_up (fun j => some (D j)) i (some dw)) D C T n ((wc + 1)) nw (va_up ds i (upd (ds i).1 1 0, (ds i).2)) wd) H := hP
  have hD : va_D A (wG cI cS h tr sl ((D i)) dw cw (va_up (fun j => some (D j)) i (some dw)) D C T n ((wc + 1)) nw (va_up ds i (upd (ds i).1 1 0, (ds i).2)) wd) := hD
  have hP := wG_swapP hi hP
  have hD := wG_swapD hi hD
  rw [vu_s, bx_uu] at hP hD
  exact W.vret hx hb hr (fh_qv () trivial hP hK hD hS) hS.2.2 dX1_showWhole_37
section WU
variable {cI cS : ClassId} {h tr sl dw cw : Nat} {D C : Nat → Nat} {T : Nat → Int32} {n wc nw : Int32} {ds : Nat → Dg} {wd d : Dg} {i : Nat}
theorem wH_oU (hi : i < 4) : (wH cI cS h tr sl dw cw D C T n wc nw (va_up ds i d) wd)[5 + 2 * i]? = some (D i, eD (C i) d.1) := by
  rw [wH_o hi, vu_s]
theorem wH_soU (hi : i < 4) (f : Nat → Int32) : (wH cI cS h tr sl dw cw D C T n wc nw (va_up ds i d) wd).set (5 + 2 * i) (D i, eD (C i) f) = wH cI cS h tr sl dw cw D C T n wc nw (va_up ds i (f, d.2)) wd := by
  rw [wH_so hi, vu_s, bx_uu]
theorem wH_cutU (hi : i < 4) : ∃ (wr : va_W) (isC isR isB : List Nat), va_nd isC = true ∧ isC.map (fun k => (wH cI cS h tr sl dw cw D C T n wc nw (va_up ds i d) wd)[k]?) = (wD cI (D i) (C i) d.1 d.2).map some ∧ isR.map (fun k => (wH cI cS h tr sl dw cw D C T n wc nw (va_up ds i d) wd)[k]?) = wr.map some ∧ va_nd isR = true ∧ (∀ k ∈ isR, k ∉ isC) ∧ va_nd isB = true ∧ ∀ (f x : Nat → Int32), isB.map (fun k => (wr ++ wD cI (D i) (C i) f x)[k]?) = (wH cI cS h tr sl dw cw D C T n wc nw (va_up ds i (f, x)) wd).map some := by
  have h9 := wH_cut (cI := cI) (cS := cS) (h := h) (tr := tr) (sl := sl) (dw := dw) (cw := cw) (D := D) (C := C) (T := T) (n := n) (wc := wc) (nw := nw) (ds := va_up ds i d) (wd := wd) hi
  simp only [vu_s, bx_uu] at h9
  exact h9
theorem wH_cutTU (hi : i < 4) : ∃ (wr : va_W) (isC isR isB : List Nat), va_nd isC = true ∧ isC.map (fun k => (wH cI cS h tr sl dw cw D C T n wc nw (va_up ds i d) wd)[k]?) = (wDs cI (D i) (C i) tr d.1 d.2 T).map some ∧ isR.map (fun k => (wH cI cS h tr sl dw cw D C T n wc nw (va_up ds i d) wd)[k]?) = wr.map some ∧ va_nd isR = true ∧ (∀ k ∈ isR, k ∉ isC) ∧ va_nd isB = true ∧ ∀ (f x : Nat → Int32), isB.map (fun k => (wr ++ wDs cI (D i) (C i) tr f x T)[k]?) = (wH cI cS h tr sl dw cw D C T n wc nw (va_up ds i (f, x)) wd).map some := by
  have h9 := wH_cutT (cI := cI) (cS := cS) (h := h) (tr := tr) (sl := sl) (dw := dw) (cw := cw) (D := D) (C := C) (T := T) (n := n) (wc := wc) (nw := nw) (ds := va_up ds i d) (wd := wd) hi
  simp only [vu_s, bx_uu] at h9
  exact h9
end WU
set_option maxHeartbeats 4000000 in
set_option maxRecDepth 100000 in
/-- join -/
theorem c_join (l : Launch) (dC : Nat → ClassId) (dI : Nat → Nat → Nat) (cI cS : ClassId) (h tr sl dw cw : Nat) (D C : Nat → Nat) (T : Nat → Int32) (n wc nw : Int32) (ds : Nat → Dg) (wd : Dg) (i a b : Nat) (p4 : Int32) (sz : Nat) (hi : i < 4) (hb1 : b ≤ 1480) (hab : a + b ≤ 4096) : Met l yX1_join wsX1_join ({ frames := 2, cells := 0, slots := 0, locals := 46 }) (va_Pc [.ref h, .int (nI i), .int (nI a), .int (nI b), .int p4] (PW (dC, dI) vwCl [(cI, .int), (cS, tDg)] (wH cI cS h tr sl dw cw D C T n wc nw ds wd) sz)) (va_Qi (S := Sj) (fun r u => JN D C dw cw wc ds wd T i a b p4 r u) (QW (dC, dI) vwCl (fun _ => [(cI, .int), (cS, tDg)]) (va_A (wH cI cS h tr sl dw cw D C T n wc nw ds wd) sz) (fun u => wH cI cS h tr sl u.2.2.1 u.2.2.2.1 u.1 u.2.1 T n u.2.2.2.2.1 nw u.2.2.2.2.2.1 u.2.2.2.2.2.2)) (va_A (wH cI cS h tr sl dw cw D C T n wc nw ds wd) sz)) 0 0 (va_A (wH cI cS h tr sl dw cw D C T n wc nw ds wd) sz) := by
  refine Met.ofW (cc := cX1_join) (maxL := 7) (ret := (some .int)) (by decide) rfl ?_
  intro p e s m args below meth c s₁ B hml hv
  obtain ⟨rfl, hsz, hP, hK, hD0⟩ := hv
  have hx := B.exec
  have hb := B.bytes
  have hr := B.returns
  have hts := atoms_spec (ws := wsX1_join) B.pre
  have hown : s.vm.findClass RX1 = some m.cls := findClass_of_methodNamed B.named
  have hlocks := B.notSynchronized
  subst hsz
  have hD := hD0.self (sz := s.heap.size)
  generalize hAe : va_A (wH cI cS h tr sl dw cw D C T n wc nw ds wd) s.heap.size = A at hD ⊢
  have hA : ∀ q : Nat, s.heap.size ≤ q → A q := fun q h => by rw [← hAe]; exact Or.inr h
  have hS : va_S A s.heap s.heap [] := va_S.rf
  have hl := lv_entry ([.ref h, .int (nI i), .int (nI a), .int (nI b), .int p4]) (n := 7) (Nat.le_of_ble_eq_true rfl)
  rw [lg_entry_eq]
  generalize (lg_sl ([.ref h, .int (nI i), .int (nI a), .int (nI b), .int p4]) ++ List.replicate (7 - (lg_sl ([.ref h, .int (nI i), .int (nI a), .int (nI b), .int p4])).length) Slot.unset).toArray = ls at hl ⊢
  have hl : lv_has ls 7 [(0, .ref h), (1, .int (nI i)), (2, .int (nI a)), (3, .int (nI b)), (4, .int p4)] := hl
  refine fh_start (fun H hH => ?_)
  have hP : va_P (dC, dI) vwCl (wH cI cS h tr sl dw cw D C T n wc nw ds wd) H := by rw [hH]; exact hP
  have hS : va_S A s.heap H [] := by rw [hH]; exact va_S.rf
  have e9 : ds = va_up ds i (ds i) := (vu_id ds i).symm
  have hP : va_P (dC, dI) vwCl (wH cI cS h tr sl dw cw D C T n wc nw (va_up ds i ((ds i))) wd) H := by rw [← e9]; exact hP
  have hD : va_D A (wH cI cS h tr sl dw cw D C T n wc nw (va_up ds i ((ds i))) wd) := by rw [← e9]; exact hD
  refine lv_aload_n hx hb dX1_join_0 rfl (lv_at hl 0 rfl) ?_
  refine va_get (D := (dC, dI)) (ci := 1) (v := .ref sl) (C := RX1) (T := TX1) (N := 6) hx hb hts (by decide +kernel) hown hK hP 0 rfl rfl 1 (by decide) (hts (.fieldLink RX1 15 "FragmentHouse" "slots" "[LFragmentHouse$Datagram;") (by decide +kernel)) (fun _ h9 => h9) rfl dX1_join_1 ?_
  refine lv_iload_n hx hb dX1_join_4 rfl (lv_at hl 1 rfl) ?_
  refine fh_aald (k := i) hx hb hK hP 2 1 rfl rfl hi (by decide) rfl dX1_join_5 ?_
  refine lv_astore (lv' := [(5, .ref (D i)), (0, .ref h), (1, .int (nI i)), (2, .int (nI a)), (3, .int (nI b)), (4, .int p4)]) hx hb dX1_join_6 hl (by decide) rfl (fun ls hl => ?_)
  refine lv_iload_n hx hb dX1_join_8 rfl (lv_at hl 3 rfl) ?_
  refine lv_iload_n hx hb dX1_join_9 rfl (lv_at hl 4 rfl) ?_
  refine lv_iadd hx hb dX1_join_10 ?_
  refine fh_top (y := nI (a + b)) (nI_add a b) ?_
  refine lv_istore (lv' := [(6, .int (nI (a + b))), (5, .ref (D i)), (0, .ref h), (1, .int (nI i)), (2, .int (nI a)), (3, .int (nI b)), (4, .int p4)]) hx hb dX1_join_11 hl (by decide) rfl (fun ls hl => ?_)
  refine lv_aload hx hb dX1_join_13 (lv_at hl 1 rfl) ?_
  refine lv_iload hx hb dX1_join_15 (lv_at hl 0 rfl) ?_
  refine lv_iload hx hb dX1_join_17 (lv_at hl 6 rfl) ?_
  have hK0 := hK
  have hK : va_K (dC, dI) vwCl [(cI, .int)] s := hK.sub [0] rfl
  obtain ⟨wr, isC, isR, isB, hnC, hC, hR, hn, hdis, hnB, hB⟩ := wH_cutU (cI := cI) (cS := cS) (h := h) (tr := tr) (sl := sl) (dw := dw) (cw := cw) (D := D) (C := C) (T := T) (n := n) (wc := wc) (nw := nw) (wd := wd) (ds := ds) (d := (ds i)) hi
  have hPc := hP.sub isC (fm_map hC)
  have hDc := hD.sub isC hnC hC
  refine fh_ci (w2 := fun _ => wH cI cS h tr sl dw cw D C T n wc nw (va_up ds i ((ds i))) wd) (va_runV (As := [.int (nI (a + b)), .int p4]) (rest := []) ⟨hx, hb, hml, hown, hts⟩ (c_isCon l dC dI cI (D i) (C i) ((ds i)).1 ((ds i)).2 (nI (a + b)) p4 H.size) (cwV 2 hts gX1_join_X0_isContradictedBy rfl rfl rfl (by decide +kernel) ⟨Nat.le_of_ble_eq_true rfl, Nat.le_of_ble_eq_true rfl⟩) (pV_PW hK hPc hDc (ci := 0) (q0 := 0) rfl rfl) rfl rfl hl.1 rfl (lv_room (Nat.le_of_ble_eq_true rfl)) dX1_join_19 ⟨Nat.zero_le _, Nat.zero_le _⟩) hP hD hS hA isC isR isB hC hR hn hdis hnB (fun _ => hB _ _) (fun r _u H locs hw hK hP hD hS => ?_)
  have hK : va_K (dC, dI) vwCl [(cI, .int), (cS, tDg)] s := hK0
  have hwC := hw
  refine lv_if_eq (tgt := 34) hx hb dX1_join_22 (by decide) (fun c22 => ?_) (fun c22 => ?_)
  · skip
    have hCt : ¬ Ctr (ds i).1 (nI (a + b)) p4 := hwC.elim (fun z => absurd (z.1.symm.trans c22) (by decide)) (fun z => z.2)
    refine lv_aload hx hb dX1_join_34 (lv_at hl 1 rfl) ?_
    refine lv_iload hx hb dX1_join_36 (lv_at hl 0 rfl) ?_
    refine lv_iload hx hb dX1_join_38 (lv_at hl 6 rfl) ?_
    have hK0 := hK
    have hK : va_K (dC, dI) vwCl [(cI, .int)] s := hK.sub [0] rfl
    obtain ⟨wr, isC, isR, isB, hnC, hC, hR, hn, hdis, hnB, hB⟩ := wH_cutU (cI := cI) (cS := cS) (h := h) (tr := tr) (sl := sl) (dw := dw) (cw := cw) (D := D) (C := C) (T := T) (n := n) (wc := wc) (nw := nw) (wd := wd) (ds := ds) (d := (ds i)) hi
    have hPc := hP.sub isC (fm_map hC)
    have hDc := hD.sub isC hnC hC
    refine fh_cv (w2 := fun u => wH cI cS h tr sl dw cw D C T n wc nw (va_up ds i ((u, (ds i).2))) wd) (va_runV (As := [.int (nI (a + b)), .int p4]) (rest := []) ⟨hx, hb, hml, hown, hts⟩ (c_noteReach l dC dI cI (D i) (C i) ((ds i)).1 ((ds i)).2 (nI (a + b)) p4 H.size) (cwV 2 hts gX1_join_X0_noteReach rfl rfl rfl (by decide +kernel) ⟨Nat.le_of_ble_eq_true rfl, Nat.le_of_ble_eq_true rfl⟩) (pV_PW hK hPc hDc (ci := 0) (q0 := 0) rfl rfl) rfl rfl hl.1 rfl (lv_room (Nat.le_of_ble_eq_true rfl)) dX1_join_40 ⟨Nat.zero_le _, Nat.zero_le _⟩) hP hD hS hA isC isR isB hC hR hn hdis hnB (fun u => hB u _) (fun u H locs hw hK hP hD hS => ?_)
    have hK : va_K (dC, dI) vwCl [(cI, .int), (cS, tDg)] s := hK0
    subst hw
    have hP : va_P (dC, dI) vwCl (wH cI cS h tr sl dw cw D C T n wc nw (va_up ds i ((nR (ds i).1 (nI (a + b)) p4, (ds i).2))) wd) H := hP
    have hD : va_D A (wH cI cS h tr sl dw cw D C T n wc nw (va_up ds i ((nR (ds i).1 (nI (a + b)) p4, (ds i).2))) wd) := hD
    refine lv_aload hx hb dX1_join_43 (lv_at hl 1 rfl) ?_
    refine lv_aload_n hx hb dX1_join_45 rfl (lv_at hl 2 rfl) ?_
    refine va_get (D := (dC, dI)) (ci := 1) (v := .ref tr) (C := RX1) (T := TX1) (N := 6) hx hb hts (by decide +kernel) hown hK hP 0 rfl rfl 0 (by decide) (hts (.fieldLink RX1 9 "FragmentHouse" "tray" "[I") (by decide +kernel)) (fun _ h9 => h9) rfl dX1_join_46 ?_
    refine lv_iload_n hx hb dX1_join_49 rfl (lv_at hl 5 rfl) ?_
    refine lv_iload_n hx hb dX1_join_50 rfl (lv_at hl 4 rfl) ?_
    have hK0 := hK
    have hK : va_K (dC, dI) vwCl [(cI, .int)] s := hK.sub [0] rfl
    obtain ⟨wr, isC, isR, isB, hnC, hC, hR, hn, hdis, hnB, hB⟩ := wH_cutTU (cI := cI) (cS := cS) (h := h) (tr := tr) (sl := sl) (dw := dw) (cw := cw) (D := D) (C := C) (T := T) (n := n) (wc := wc) (nw := nw) (wd := wd) (ds := ds) (d := (nR (ds i).1 (nI (a + b)) p4, (ds i).2)) hi
    have hPc := hP.sub isC (fm_map hC)
    have hDc := hD.sub isC hnC hC
    refine fh_cv (w2 := fun _ => wH cI cS h tr sl dw cw D C T n wc nw (va_up ds i ((jD (ds i).1 (ds i).2 a b T p4))) wd) (va_runV (As := [.ref tr, .int (nI b), .int (nI a)]) (rest := []) ⟨hx, hb, hml, hown, hts⟩ (c_putIn l dC dI cI (D i) (C i) tr ((nR (ds i).1 (nI (a + b)) p4, (ds i).2)).1 ((nR (ds i).1 (nI (a + b)) p4, (ds i).2)).2 T b a H.size hb1 hab) (cwV 3 hts gX1_join_X0_putIn rfl rfl rfl (by decide +kernel) ⟨Nat.le_of_ble_eq_true rfl, Nat.le_of_ble_eq_true rfl⟩) (pV_PW hK hPc hDc (ci := 0) (q0 := 0) rfl rfl) rfl rfl hl.1 rfl (lv_room (Nat.le_of_ble_eq_true rfl)) dX1_join_51 ⟨Nat.zero_le _, Nat.zero_le _⟩) hP hD hS hA isC isR isB hC hR hn hdis hnB (fun _ => hB _ _) (fun _u H locs hw hK hP hD hS => ?_)
    have hK : va_K (dC, dI) vwCl [(cI, .int), (cS, tDg)] s := hK0
    have hP : va_P (dC, dI) vwCl (wH cI cS h tr sl dw cw D C T n wc nw (va_up ds i ((jD (ds i).1 (ds i).2 a b T p4))) wd) H := hP
    have hD : va_D A (wH cI cS h tr sl dw cw D C T n wc nw (va_up ds i ((jD (ds i).1 (ds i).2 a b T p4))) wd) := hD
    refine lv_aload hx hb dX1_join_54 (lv_at hl 1 rfl) ?_
    have hK0 := hK
    have hK : va_K (dC, dI) vwCl [(cI, .int)] s := hK.sub [0] rfl
    obtain ⟨wr, isC, isR, isB, hnC, hC, hR, hn, hdis, hnB, hB⟩ := wH_cutU (cI := cI) (cS := cS) (h := h) (tr := tr) (sl := sl) (dw := dw) (cw := cw) (D := D) (C := C) (T := T) (n := n) (wc := wc) (nw := nw) (wd := wd) (ds := ds) (d := (jD (ds i).1 (ds i).2 a b T p4)) hi
    have hPc := hP.sub isC (fm_map hC)
    have hDc := hD.sub isC hnC hC
    refine fh_ci (w2 := fun _ => wH cI cS h tr sl dw cw D C T n wc nw (va_up ds i ((jD (ds i).1 (ds i).2 a b T p4))) wd) (va_runV (As := []) (rest := []) ⟨hx, hb, hml, hown, hts⟩ (c_isWhole l dC dI cI (D i) (C i) ((jD (ds i).1 (ds i).2 a b T p4)).1 ((jD (ds i).1 (ds i).2 a b T p4)).2 H.size) (cwV 0 hts gX1_join_X0_isWhole rfl rfl rfl (by decide +kernel) ⟨Nat.le_of_ble_eq_true rfl, Nat.le_of_ble_eq_true rfl⟩) (pV_PW hK hPc hDc (ci := 0) (q0 := 0) rfl rfl) rfl rfl hl.1 rfl (lv_room (Nat.le_of_ble_eq_true rfl)) dX1_join_56 ⟨Nat.zero_le _, Nat.zero_le _⟩) hP hD hS hA isC isR isB hC hR hn hdis hnB (fun _ => hB _ _) (fun r _u H locs hw hK hP hD hS => ?_)
    have hK : va_K (dC, dI) vwCl [(cI, .int), (cS, tDg)] s := hK0
    have hwW := hw
    refine lv_if_ne (tgt := 64) hx hb dX1_join_59 (by decide) (fun c59 => ?_) (fun c59 => ?_)
    · skip
      have hW : Wh (jD (ds i).1 (ds i).2 a b T p4) := hwW.elim (fun z => z.2) (fun z => absurd z.1 c59)
      refine lv_aload_n hx hb dX1_join_64 rfl (lv_at hl 2 rfl) ?_
      refine lv_iload_n hx hb dX1_join_65 rfl (lv_at hl 3 rfl) ?_
      have hPc := hP.sub (ws' := wH cI cS h tr sl dw cw D C T n wc nw (va_up ds i ((jD (ds i).1 (ds i).2 a b T p4))) wd) [0, 1, 2, 3, 4, 5, 6, 7, 8, 9, 10, 11, 12] rfl
      have hDc := hD.sub (ws' := wH cI cS h tr sl dw cw D C T n wc nw (va_up ds i ((jD (ds i).1 (ds i).2 a b T p4))) wd) [0, 1, 2, 3, 4, 5, 6, 7, 8, 9, 10, 11, 12] (by decide) rfl
      refine fh_cv (wr := []) (w2 := fun _ => wH cI cS h tr sl (D i) (C i) (va_up D i dw) (va_up C i cw) T n (wc + 1) nw (va_up (va_up ds i ((jD (ds i).1 (ds i).2 a b T p4))) i wd) (upd ((va_up ds i ((jD (ds i).1 (ds i).2 a b T p4))) i).1 1 0, ((va_up ds i ((jD (ds i).1 (ds i).2 a b T p4))) i).2)) (va_runV (As := [.int (nI i)]) (rest := []) ⟨hx, hb, hml, hown, hts⟩ (c_showWhole l dC dI cI cS h tr sl dw cw D C T n wc nw (va_up ds i ((jD (ds i).1 (ds i).2 a b T p4))) wd i H.size hi) (cwV 1 hts gX1_join_X1_showWhole rfl rfl rfl (by decide +kernel) ⟨Nat.le_of_ble_eq_true rfl, Nat.le_of_ble_eq_true rfl⟩) (pV_PW hK hPc hDc (ci := 1) (q0 := 0) rfl rfl) rfl rfl hl.1 rfl (lv_room (Nat.le_of_ble_eq_true rfl)) dX1_join_66 ⟨Nat.zero_le _, Nat.zero_le _⟩) hP hD hS hA [0, 1, 2, 3, 4, 5, 6, 7, 8, 9, 10, 11, 12] [] [0, 1, 2, 3, 4, 5, 6, 7, 8, 9, 10, 11, 12] rfl rfl (by decide) (by decide) (by decide) (fun _ => rfl) (fun _u H locs hw hK hP hD hS => ?_)
      rw [vu_s, bx_uu] at hP hD
      have hP : va_P (dC, dI) vwCl (wH cI cS h tr sl (D i) (C i) (va_up D i dw) (va_up C i cw) T n (wc + 1) nw (va_up ds i wd) (upd (jD (ds i).1 (ds i).2 a b T p4).1 1 0, (jD (ds i).1 (ds i).2 a b T p4).2)) H := hP
      have hD : va_D A (wH cI cS h tr sl (D i) (C i) (va_up D i dw) (va_up C i cw) T n (wc + 1) nw (va_up ds i wd) (upd (jD (ds i).1 (ds i).2 a b T p4).1 1 0, (jD (ds i).1 (ds i).2 a b T p4).2)) := hD
      refine lv_aload_n hx hb dX1_join_69 rfl (lv_at hl 2 rfl) ?_
      refine va_get (D := (dC, dI)) (ci := 1) (v := .ref (D i)) (C := RX1) (T := TX1) (N := 6) hx hb hts (by decide +kernel) hown hK hP 0 rfl rfl 2 (by decide) (hts (.fieldLink RX1 20 "FragmentHouse" "latestWhole" "LFragmentHouse$Datagram;") (by decide +kernel)) (fun _ h9 => h9) rfl dX1_join_70 ?_
      refine va_get (D := (dC, dI)) (ci := 0) (v := .int ((jD (ds i).1 (ds i).2 a b T p4).1 6)) (C := RX0) (T := TX0) (N := 9) hx hb hts (by decide +kernel) hown hK hP 3 rfl rfl 6 (by decide) (hts (.fieldLink RX1 58 "FragmentHouse$Datagram" "knownEnd" "I") (by decide +kernel)) (fun _ h9 => h9) rfl dX1_join_73 ?_
      exact W.iret hx hb hr (fh_qi (va_up D i dw, va_up C i cw, D i, C i, wc + 1, va_up ds i wd, (upd (jD (ds i).1 (ds i).2 a b T p4).1 1 0, (jD (ds i).1 (ds i).2 a b T p4).2)) (Or.inr ⟨hCt, Or.inr ⟨hW, rfl, rfl⟩⟩) hP hK hD hS) hS.2.2 dX1_join_76
    · skip
      have hW : ¬ Wh (jD (ds i).1 (ds i).2 a b T p4) := hwW.elim (fun z => absurd (z.1.symm.trans c59) (by decide)) (fun z => z.2)
      refine lv_iconst (v := (-1)) hx hb dX1_join_62 (by first | decide | rfl) ?_
      exact W.iret hx hb hr (fh_qi (D, C, dw, cw, wc, va_up ds i (jD (ds i).1 (ds i).2 a b T p4), wd) (Or.inr ⟨hCt, Or.inl ⟨hW, rfl, rfl⟩⟩) hP hK hD hS) hS.2.2 dX1_join_63
  · skip
    have hCt : Ctr (ds i).1 (nI (a + b)) p4 := hwC.elim (fun z => z.2) (fun z => absurd z.1 c22)
    refine lv_aload hx hb dX1_join_25 (lv_at hl 1 rfl) ?_
    refine lv_iconst (v := 0) hx hb dX1_join_27 (by first | decide | rfl) ?_
    refine va_put (D := (dC, dI)) (ci := 0) (v := .int 0) (ty := .boolean) (C := RX0) (T := TX0) (N := 9) hx hb hts (by decide +kernel) tyX0 tyX0_ok nmX0 hown hK hP hD hS (5 + 2 * i) (wH_oU hi) rfl 1 (by decide) (hts (.fieldLink RX1 51 "FragmentHouse$Datagram" "inMaking" "Z") (by decide +kernel)) (fun _ h9 => h9) rfl (by decide +kernel) rfl rfl (Nat.le_of_ble_eq_true rfl) dX1_join_28 (fun H locs hP hD hS => ?_)
    have hP : va_P (dC, dI) vwCl (wH cI cS h tr sl dw cw D C T n wc nw (va_up ds i (upd ((ds i)).1 1 0, ((ds i)).2)) wd) H := by rw [← wH_soU hi (upd ((ds i)).1 1 0)]; exact hP
    have hD : va_D A (wH cI cS h tr sl dw cw D C T n wc nw (va_up ds i (upd ((ds i)).1 1 0, ((ds i)).2)) wd) := by rw [← wH_soU hi (upd ((ds i)).1 1 0)]; exact hD
    have hP : va_P (dC, dI) vwCl (wH cI cS h tr sl dw cw D C T n wc nw (va_up ds i (upd ((ds i)).1 1 0, ((ds i)).2)) wd) H := hP
    have hD : va_D A (wH cI cS h tr sl dw cw D C T n wc nw (va_up ds i (upd ((ds i)).1 1 0, ((ds i)).2)) wd) := hD
    refine lv_bipush (v := (-3)) hx hb dX1_join_31 (by first | decide | rfl) ?_
    exact W.iret hx hb hr (fh_qi (D, C, dw, cw, wc, va_up ds i (upd (ds i).1 1 0, (ds i).2), wd) (Or.inl ⟨hCt, rfl, rfl⟩) hP hK hD hS) hS.2.2 dX1_join_33
set_option maxHeartbeats 4000000 in
set_option maxRecDepth 100000 in
/-- take -/
theorem c_take (l : Launch) (dC : Nat → ClassId) (dI : Nat → Nat → Nat) (cI cS : ClassId) (h tr sl dw cw : Nat) (D C : Nat → Nat) (T : Nat → Int32) (n wc nw : Int32) (ds : Nat → Dg) (wd : Dg) (p1 p2 p3 p4 p5 : Int32) (q : Nat) (sz : Nat) (hq : q ≤ 1480) : Met l yX1_take wsX1_take ({ frames := 3, cells := 0, slots := 0, locals := 73 }) (va_Pc [.ref h, .int p1, .int p2, .int p3, .int p4, .int p5] (PW (dC, dI) vwCl [(cI, .int), (cS, tDg)] (wH cI cS h tr sl dw cw D C T (nI q) wc nw ds wd) sz)) (va_Qi (S := Nat × Sj) (fun r u => TK D C dw cw wc nw ds wd T q p1 p2 p3 p4 p5 r u) (QW (dC, dI) vwCl (fun _ => [(cI, .int), (cS, tDg)]) (va_A (wH cI cS h tr sl dw cw D C T (nI q) wc nw ds wd) sz) (fun u => wH cI cS h tr sl u.2.2.2.1 u.2.2.2.2.1 u.2.1 u.2.2.1 T (nI u.1) u.2.2.2.2.2.1 nw u.2.2.2.2.2.2.1 u.2.2.2.2.2.2.2)) (va_A (wH cI cS h tr sl dw cw D C T (nI q) wc nw ds wd) sz)) 0 0 (va_A (wH cI cS h tr sl dw cw D C T (nI q) wc nw ds wd) sz) := by
  refine Met.ofW (cc := cX1_take) (maxL := 9) (ret := (some .int)) (by decide) rfl ?_
  intro p e s m args below meth c s₁ B hml hv
  obtain ⟨rfl, hsz, hP, hK, hD0⟩ := hv
  have hx := B.exec
  have hb := B.bytes
  have hr := B.returns
  have hts := atoms_spec (ws := wsX1_take) B.pre
  have hown : s.vm.findClass RX1 = some m.cls := findClass_of_methodNamed B.named
  have hlocks := B.notSynchronized
  subst hsz
  have hD := hD0.self (sz := s.heap.size)
  generalize hAe : va_A (wH cI cS h tr sl dw cw D C T (nI q) wc nw ds wd) s.heap.size = A at hD ⊢
  have hA : ∀ q : Nat, s.heap.size ≤ q → A q := fun q h => by rw [← hAe]; exact Or.inr h
  have hS : va_S A s.heap s.heap [] := va_S.rf
  have hl := lv_entry ([.ref h, .int p1, .int p2, .int p3, .int p4, .int p5]) (n := 9) (Nat.le_of_ble_eq_true rfl)
  rw [lg_entry_eq]
  generalize (lg_sl ([.ref h, .int p1, .int p2, .int p3, .int p4, .int p5]) ++ List.replicate (9 - (lg_sl ([.ref h, .int p1, .int p2, .int p3, .int p4, .int p5])).length) Slot.unset).toArray = ls at hl ⊢
  have hl : lv_has ls 9 [(0, .ref h), (1, .int p1), (2, .int p2), (3, .int p3), (4, .int p4), (5, .int p5)] := hl
  refine fh_start (fun H hH => ?_)
  have hP : va_P (dC, dI) vwCl (wH cI cS h tr sl dw cw D C T (nI q) wc nw ds wd) H := by rw [hH]; exact hP
  have hS : va_S A s.heap H [] := by rw [hH]; exact va_S.rf
  refine lv_iload hx hb dX1_take_0 (lv_at hl 4 rfl) ?_
  refine lv_if_lt (tgt := 13) hx hb dX1_take_2 (by decide) (fun c2 => ?_) (fun c2 => ?_)
  · skip
    refine lv_bipush (v := (-4)) hx hb dX1_take_13 (by first | decide | rfl) ?_
    exact W.iret hx hb hr (fh_qi (q, D, C, dw, cw, wc, ds, wd) (Or.inl ⟨rfl, Or.inl c2, rfl⟩) hP hK hD hS) hS.2.2 dX1_take_15
  · skip
    refine lv_iload hx hb dX1_take_5 (lv_at hl 4 rfl) ?_
    refine lv_sipush (v := nI 8191) hx hb dX1_take_7 (by first | decide | rfl) ?_
    refine lv_icmp_le (tgt := 16) hx hb dX1_take_10 (by decide) (fun c10 => ?_) (fun c10 => ?_)
    · skip
      obtain ⟨o, ho0, rfl⟩ := nI_of c2
      have ho : o ≤ 8191 := (nI_leI ho0 (by decide)).mp c10
      refine lv_aload_n hx hb dX1_take_16 rfl (lv_at hl 0 rfl) ?_
      refine va_get (D := (dC, dI)) (ci := 1) (v := .int (nI q)) (C := RX1) (T := TX1) (N := 6) hx hb hts (by decide +kernel) hown hK hP 0 rfl rfl 3 (by decide) (hts (.fieldLink RX1 24 "FragmentHouse" "trayCount" "I") (by decide +kernel)) (fun _ h9 => h9) rfl dX1_take_17 ?_
      refine lv_istore (lv' := [(6, .int (nI q)), (0, .ref h), (1, .int p1), (2, .int p2), (3, .int p3), (4, .int (nI o)), (5, .int p5)]) hx hb dX1_take_20 hl (by decide) rfl (fun ls hl => ?_)
      refine lv_aload_n hx hb dX1_take_22 rfl (lv_at hl 1 rfl) ?_
      refine lv_iconst (v := nI 0) hx hb dX1_take_23 (by first | decide | rfl) ?_
      refine va_put (D := (dC, dI)) (ci := 1) (v := .int (nI 0)) (ty := .int) (C := RX1) (T := TX1) (N := 6) hx hb hts (by decide +kernel) tyX1 tyX1_ok nmX1 hown hK hP hD hS 0 rfl rfl 3 (by decide) (hts (.fieldLink RX1 24 "FragmentHouse" "trayCount" "I") (by decide +kernel)) (fun _ h9 => h9) rfl (by decide +kernel) rfl rfl (Nat.le_of_ble_eq_true rfl) dX1_take_24 (fun H locs hP hD hS => ?_)
      have hP : va_P (dC, dI) vwCl (wH cI cS h tr sl dw cw D C T ((nI 0)) wc nw ds wd) H := hP
      have hD : va_D A (wH cI cS h tr sl dw cw D C T ((nI 0)) wc nw ds wd) := hD
      refine lv_iload hx hb dX1_take_27 (lv_at hl 5 rfl) ?_
      refine lv_bipush (v := nI 8) hx hb dX1_take_29 (by first | decide | rfl) ?_
      refine lv_imul hx hb dX1_take_31 ?_
      refine fh_top (y := nI (o * 8)) (pk_mul o 8) ?_
      refine lv_istore (lv' := [(7, .int (nI (o * 8))), (6, .int (nI q)), (0, .ref h), (1, .int p1), (2, .int p2), (3, .int p3), (4, .int (nI o)), (5, .int p5)]) hx hb dX1_take_32 hl (by decide) rfl (fun ls hl => ?_)
      refine lv_iload hx hb dX1_take_34 (lv_at hl 0 rfl) ?_
      refine lv_iload hx hb dX1_take_36 (lv_at hl 1 rfl) ?_
      refine lv_iload hx hb dX1_take_38 (lv_at hl 7 rfl) ?_
      have hPc := hP.sub (ws' := []) [] rfl
      have hDc := hD.sub (ws' := []) [] (by decide) rfl
      refine fh_ci (wr := wH cI cS h tr sl dw cw D C T ((nI 0)) wc nw ds wd) (w2 := fun _ => wH cI cS h tr sl dw cw D C T ((nI 0)) wc nw ds wd) (va_runS (As := [.int (nI (o * 8)), .int (nI q), .int p5]) (rest := []) ⟨hx, hb, hml, hown, hts⟩ (c_isSound l dC dI [(cI, .int), (cS, tDg)] (o * 8) q p5 H.size (by omega) hq) (va_cwS 3 hts gX1_take_X1_isSound rfl rfl rfl (by decide +kernel) ⟨Nat.le_of_ble_eq_true rfl, Nat.le_of_ble_eq_true rfl⟩) (pS_PW hK hPc hDc) rfl rfl hl.1 rfl (lv_room (Nat.le_of_ble_eq_true rfl)) dX1_take_40 ⟨Nat.zero_le _, Nat.zero_le _⟩) hP hD hS hA [] [0, 1, 2, 3, 4, 5, 6, 7, 8, 9, 10, 11, 12] [0, 1, 2, 3, 4, 5, 6, 7, 8, 9, 10, 11, 12] rfl rfl (by decide) (by decide) (by decide) (fun _ => rfl) (fun r _u H locs hw hK hP hD hS => ?_)
      have hwS := hw
      refine lv_if_ne (tgt := 49) hx hb dX1_take_43 (by decide) (fun c43 => ?_) (fun c43 => ?_)
      · skip
        have hsd : Snd (o * 8) q p5 := hwS.elim (fun z => z.2) (fun z => absurd z.1 c43)
        refine lv_aload_n hx hb dX1_take_49 rfl (lv_at hl 2 rfl) ?_
        refine lv_iload_n hx hb dX1_take_50 rfl (lv_at hl 3 rfl) ?_
        refine lv_iload_n hx hb dX1_take_51 rfl (lv_at hl 4 rfl) ?_
        refine lv_iload_n hx hb dX1_take_52 rfl (lv_at hl 5 rfl) ?_
        have hPc := hP.sub (ws' := wH cI cS h tr sl dw cw D C T ((nI 0)) wc nw ds wd) [0, 1, 2, 3, 4, 5, 6, 7, 8, 9, 10, 11, 12] rfl
        have hDc := hD.sub (ws' := wH cI cS h tr sl dw cw D C T ((nI 0)) wc nw ds wd) [0, 1, 2, 3, 4, 5, 6, 7, 8, 9, 10, 11, 12] (by decide) rfl
        refine fh_ci (wr := []) (w2 := fun u => wH cI cS h tr sl dw cw D C T (nI 0) wc nw u wd) (va_runV (As := [.int p1, .int p2, .int p3]) (rest := []) ⟨hx, hb, hml, hown, hts⟩ (c_slotFor l dC dI cI cS h tr sl dw cw D C T ((nI 0)) wc nw ds wd p1 p2 p3 H.size) (cwV 3 hts gX1_take_X1_slotFor rfl rfl rfl (by decide +kernel) ⟨Nat.le_of_ble_eq_true rfl, Nat.le_of_ble_eq_true rfl⟩) (pV_PW hK hPc hDc (ci := 1) (q0 := 0) rfl rfl) rfl rfl hl.1 rfl (lv_room (Nat.le_of_ble_eq_true rfl)) dX1_take_53 ⟨Nat.zero_le _, Nat.zero_le _⟩) hP hD hS hA [0, 1, 2, 3, 4, 5, 6, 7, 8, 9, 10, 11, 12] [] [0, 1, 2, 3, 4, 5, 6, 7, 8, 9, 10, 11, 12] rfl rfl (by decide) (by decide) (by decide) (fun _ => rfl) (fun r8 ds1 H locs hw hK hP hD hS => ?_)
        have hwF := hw
        have hP : va_P (dC, dI) vwCl (wH cI cS h tr sl dw cw D C T ((nI 0)) wc nw ds1 wd) H := hP
        have hD : va_D A (wH cI cS h tr sl dw cw D C T ((nI 0)) wc nw ds1 wd) := hD
        refine lv_istore (lv' := [(8, .int r8), (7, .int (nI (o * 8))), (6, .int (nI q)), (0, .ref h), (1, .int p1), (2, .int p2), (3, .int p3), (4, .int (nI o)), (5, .int p5)]) hx hb dX1_take_56 hl (by decide) rfl (fun ls hl => ?_)
        refine lv_iload hx hb dX1_take_58 (lv_at hl 0 rfl) ?_
        refine lv_iconst (v := (-1)) hx hb dX1_take_60 (by first | decide | rfl) ?_
        refine lv_icmp_ne (tgt := 67) hx hb dX1_take_61 (by decide) (fun c61 => ?_) (fun c61 => ?_)
        · skip
          obtain ⟨i, hi, rfl⟩ : ∃ i, i < 4 ∧ r8 = nI i := hwF.elim (fun ⟨i, h1, h2, _⟩ => ⟨i, h1, h2⟩) (fun z => z.2.elim (fun ⟨i, _, h1, h2, _⟩ => ⟨i, h1, h2⟩) (fun y => absurd y.1 c61))
          refine lv_aload_n hx hb dX1_take_67 rfl (lv_at hl 3 rfl) ?_
          refine lv_iload hx hb dX1_take_68 (lv_at hl 0 rfl) ?_
          refine lv_iload hx hb dX1_take_70 (lv_at hl 1 rfl) ?_
          refine lv_iload hx hb dX1_take_72 (lv_at hl 2 rfl) ?_
          refine lv_iload hx hb dX1_take_74 (lv_at hl 8 rfl) ?_
          have hPc := hP.sub (ws' := wH cI cS h tr sl dw cw D C T ((nI 0)) wc nw ds1 wd) [0, 1, 2, 3, 4, 5, 6, 7, 8, 9, 10, 11, 12] rfl
          have hDc := hD.sub (ws' := wH cI cS h tr sl dw cw D C T ((nI 0)) wc nw ds1 wd) [0, 1, 2, 3, 4, 5, 6, 7, 8, 9, 10, 11, 12] (by decide) rfl
          refine fh_ci (wr := []) (w2 := fun u => wH cI cS h tr sl u.2.2.1 u.2.2.2.1 u.1 u.2.1 T (nI 0) u.2.2.2.2.1 nw u.2.2.2.2.2.1 u.2.2.2.2.2.2) (va_runV (As := [.int (nI i), .int (nI (o * 8)), .int (nI q), .int p5]) (rest := []) ⟨hx, hb, hml, hown, hts⟩ (c_join l dC dI cI cS h tr sl dw cw D C T ((nI 0)) wc nw ds1 wd i (o * 8) q p5 H.size hi hq hsd.1) (cwV 4 hts gX1_take_X1_join rfl rfl rfl (by decide +kernel) ⟨Nat.le_of_ble_eq_true rfl, Nat.le_of_ble_eq_true rfl⟩) (pV_PW hK hPc hDc (ci := 1) (q0 := 0) rfl rfl) rfl rfl hl.1 rfl (lv_room (Nat.le_of_ble_eq_true rfl)) dX1_take_76 ⟨Nat.zero_le _, Nat.zero_le _⟩) hP hD hS hA [0, 1, 2, 3, 4, 5, 6, 7, 8, 9, 10, 11, 12] [] [0, 1, 2, 3, 4, 5, 6, 7, 8, 9, 10, 11, 12] rfl rfl (by decide) (by decide) (by decide) (fun _ => rfl) (fun r v H locs hw hK hP hD hS => ?_)
          exact W.iret hx hb hr (fh_qi (0, v) (Or.inr ⟨o, ho, rfl, Or.inr ⟨hsd, nI i, ds1, hwF, Or.inr ⟨i, hi, rfl, v, hw, rfl⟩⟩⟩) hP hK hD hS) hS.2.2 dX1_take_79
        · skip
          refine lv_bipush (v := (-2)) hx hb dX1_take_64 (by first | decide | rfl) ?_
          exact W.iret hx hb hr (fh_qi (0, D, C, dw, cw, wc, ds1, wd) (Or.inr ⟨o, ho, rfl, Or.inr ⟨hsd, r8, ds1, hwF, Or.inl ⟨c61, rfl, rfl⟩⟩⟩) hP hK hD hS) hS.2.2 dX1_take_66
      · skip
        have hsd : ¬ Snd (o * 8) q p5 := hwS.elim (fun z => absurd (z.1.symm.trans c43) (by decide)) (fun z => z.2)
        refine lv_bipush (v := (-2)) hx hb dX1_take_46 (by first | decide | rfl) ?_
        exact W.iret hx hb hr (fh_qi (0, D, C, dw, cw, wc, ds, wd) (Or.inr ⟨o, ho, rfl, Or.inl ⟨hsd, rfl, rfl⟩⟩) hP hK hD hS) hS.2.2 dX1_take_48
    · skip
      refine lv_bipush (v := (-4)) hx hb dX1_take_13 (by first | decide | rfl) ?_
      exact W.iret hx hb hr (fh_qi (q, D, C, dw, cw, wc, ds, wd) (Or.inl ⟨rfl, Or.inr c10, rfl⟩) hP hK hD hS) hS.2.2 dX1_take_15
