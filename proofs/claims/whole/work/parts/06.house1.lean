/-! the house's smaller methods -/
def bv (w : Int32) (j : Nat) : Int32 := ((w.toUInt32 >>> ((24 - 8 * nI j).toUInt32 &&& Int32.toUInt32 31)).toInt32 &&& 255)
/-- k places of T from p on, written from b -/
def wrT (T : Nat → Int32) (p k : Nat) (b : Nat → Int32) : Nat → Int32 := fun j => if p ≤ j ∧ j < p + k then b (j - p) else T j
theorem wr_0 (T : Nat → Int32) (p : Nat) (b : Nat → Int32) : wrT T p 0 b = T := by
  funext j
  unfold wrT
  rw [if_neg (by omega)]
theorem wr_s (T : Nat → Int32) (p k : Nat) (b : Nat → Int32) : upd (wrT T p k b) (p + k) (b k) = wrT T p (k + 1) b := by
  funext j
  unfold upd wrT
  by_cases hj : j = p + k
  · subst hj
    rw [if_pos rfl, if_pos ⟨by omega, by omega⟩, show p + k - p = k by omega]
  · rw [if_neg hj]
    by_cases hc : p ≤ j ∧ j < p + k
    · rw [if_pos hc, if_pos ⟨hc.1, by omega⟩]
    · rw [if_neg hc, if_neg (by omega)]
/-- five words into the tray -/
def fdT (b : Int32 → Nat → Int32) (T : Nat → Int32) (q : Nat) (a1 a2 a3 a4 a5 : Int32) : Nat → Int32 := wrT (wrT (wrT (wrT (wrT T q 4 (b a1)) (q + 4) 4 (b a2)) (q + 8) 4 (b a3)) (q + 12) 4 (b a4)) (q + 16) 4 (b a5)
def Snd (a b : Nat) (l : Int32) : Prop := a + b ≤ 4096 ∧ (l ≠ 0 ∨ (0 < b ∧ b % 8 = 0))
/-- how many of the first k slots are in the making -/
def mkC (ds : Nat → Dg) : Nat → Nat
  | 0 => 0
  | k + 1 => mkC ds k + (if (ds k).1 1 = 0 then 0 else 1)
/-- the first k slots, those dropped that are too old at t -/
def psD (t : Int32) (ds : Nat → Dg) (k : Nat) : Nat → Dg := fun i => if i < k ∧ (ds i).1 1 ≠ 0 ∧ (ds i).1 5 + 15000 ≤ t then (upd (ds i).1 1 0, (ds i).2) else ds i
def psC (t : Int32) (ds : Nat → Dg) : Nat → Nat
  | 0 => 0
  | k + 1 => psC t ds k + (if (ds k).1 1 ≠ 0 ∧ (ds k).1 5 + 15000 ≤ t then 1 else 0)
theorem psD_0 (t : Int32) (ds : Nat → Dg) : psD t ds 0 = ds := by
  funext j
  unfold psD
  rw [if_neg (fun h => absurd h.1 (Nat.not_lt_zero _))]
theorem psD_at (t : Int32) (ds : Nat → Dg) (k : Nat) : psD t ds k k = ds k := by
  unfold psD
  rw [if_neg (fun h => absurd h.1 (Nat.lt_irrefl _))]
theorem psD_s1 {t : Int32} {ds : Nat → Dg} {k : Nat} (h1 : ¬ (ds k).1 1 = 0) (h2 : (ds k).1 5 + 15000 ≤ t) : va_up (psD t ds k) k (upd (psD t ds k k).1 1 0, (psD t ds k k).2) = psD t ds (k + 1) := by
  rw [psD_at]
  funext j
  unfold va_up psD
  by_cases hj : j = k
  · subst hj
    rw [if_pos rfl, if_pos ⟨by omega, h1, h2⟩]
  · rw [if_neg hj]
    by_cases hc : j < k ∧ (ds j).1 1 ≠ 0 ∧ (ds j).1 5 + 15000 ≤ t
    · rw [if_pos hc, if_pos ⟨by omega, hc.2⟩]
    · rw [if_neg hc, if_neg (fun q => hc ⟨by omega, q.2⟩)]
theorem psD_s2 {t : Int32} {ds : Nat → Dg} {k : Nat} (h : ¬ ((ds k).1 1 ≠ 0 ∧ (ds k).1 5 + 15000 ≤ t)) : psD t ds k = psD t ds (k + 1) := by
  funext j
  unfold psD
  by_cases hc : j < k ∧ (ds j).1 1 ≠ 0 ∧ (ds j).1 5 + 15000 ≤ t
  · rw [if_pos hc, if_pos ⟨by omega, hc.2⟩]
  · rw [if_neg hc, if_neg (fun q => hc ⟨by
      have h1 : j ≠ k := fun z => h (z ▸ q.2)
      omega, q.2⟩)]
theorem psC_s1 {t : Int32} {ds : Nat → Dg} {k : Nat} (h1 : ¬ (ds k).1 1 = 0) (h2 : (ds k).1 5 + 15000 ≤ t) : psC t ds (k + 1) = psC t ds k + 1 := by
  show psC t ds k + _ = _
  rw [if_pos ⟨h1, h2⟩]
theorem psC_s2 {t : Int32} {ds : Nat → Dg} {k : Nat} (h : ¬ ((ds k).1 1 ≠ 0 ∧ (ds k).1 5 + 15000 ≤ t)) : psC t ds (k + 1) = psC t ds k := by
  show psC t ds k + _ = _
  rw [if_neg h, Nat.add_zero]
theorem mkC_s1 {ds : Nat → Dg} {k : Nat} (h : ¬ (ds k).1 1 = 0) : mkC ds (k + 1) = mkC ds k + 1 := by
  show mkC ds k + _ = _
  rw [if_neg h]
theorem mkC_s2 {ds : Nat → Dg} {k : Nat} (h : (ds k).1 1 = 0) : mkC ds (k + 1) = mkC ds k := by
  show mkC ds k + _ = _
  rw [if_pos h, Nat.add_zero]
set_option maxHeartbeats 4000000 in
set_option maxRecDepth 100000 in
/-- putWord: four bytes from place q on -/
theorem c_putWord (l : Launch) (dC : Nat → ClassId) (dI : Nat → Nat → Nat) (cI cS : ClassId) (h tr sl dw cw : Nat) (D C : Nat → Nat) (T : Nat → Int32) (n wc nw : Int32) (ds : Nat → Dg) (wd : Dg) (v : Int32) (q : Nat) (sz : Nat) (hq : q + 4 ≤ 1480) : Met l yX1_putWord wsX1_putWord ({ frames := 0, cells := 0, slots := 0, locals := 0 }) (va_Pc [.ref h, .int v, .int (nI q)] (PW (dC, dI) vwCl [(cI, .int), (cS, tDg)] (wH cI cS h tr sl dw cw D C T n wc nw ds wd) sz)) (va_Qv (S := Unit) (fun _ => True) (QW (dC, dI) vwCl (fun _ => [(cI, .int), (cS, tDg)]) (va_A (wH cI cS h tr sl dw cw D C T n wc nw ds wd) sz) (fun _ => wH cI cS h tr sl dw cw D C (wrT T q 4 (bv v)) n wc nw ds wd)) (va_A (wH cI cS h tr sl dw cw D C T n wc nw ds wd) sz)) 0 0 (va_A (wH cI cS h tr sl dw cw D C T n wc nw ds wd) sz) := by
  refine Met.ofW (cc := cX1_putWord) (maxL := 4) (ret := none) (by decide) rfl ?_
  intro p e s m args below meth c s₁ B hml hv
  obtain ⟨rfl, hsz, hP, hK, hD0⟩ := hv
  have hx := B.exec
  have hb := B.bytes
  have hr := B.returns
  have hts := atoms_spec (ws := wsX1_putWord) B.pre
  have hown : s.vm.findClass RX1 = some m.cls := findClass_of_methodNamed B.named
  have hlocks := B.notSynchronized
  subst hsz
  have hD := hD0.self (sz := s.heap.size)
  generalize hAe : va_A (wH cI cS h tr sl dw cw D C T n wc nw ds wd) s.heap.size = A at hD ⊢
  have hA : ∀ q : Nat, s.heap.size ≤ q → A q := fun q h => by rw [← hAe]; exact Or.inr h
  have hS : va_S A s.heap s.heap [] := va_S.rf
  have hl := lv_entry ([.ref h, .int v, .int (nI q)]) (n := 4) (Nat.le_of_ble_eq_true rfl)
  rw [lg_entry_eq]
  generalize (lg_sl ([.ref h, .int v, .int (nI q)]) ++ List.replicate (4 - (lg_sl ([.ref h, .int v, .int (nI q)])).length) Slot.unset).toArray = ls at hl ⊢
  have hl : lv_has ls 4 [(0, .ref h), (1, .int v), (2, .int (nI q))] := hl
  refine fh_start (fun H hH => ?_)
  have hP : va_P (dC, dI) vwCl (wH cI cS h tr sl dw cw D C T n wc nw ds wd) H := by rw [hH]; exact hP
  have hS : va_S A s.heap H [] := by rw [hH]; exact va_S.rf
  refine lv_iconst (v := nI 0) hx hb dX1_putWord_0 (by first | decide | rfl) ?_
  refine lv_istore_n (lv' := [(3, .int (nI 0)), (0, .ref h), (1, .int v), (2, .int (nI q))]) hx hb dX1_putWord_1 rfl hl (by decide) rfl (fun ls hl => ?_)
  have hP : va_P (dC, dI) vwCl (wH cI cS h tr sl dw cw D C (wrT T q 0 (bv v)) n wc nw ds wd) H := by rw [wr_0]; exact hP
  have hD : va_D A (wH cI cS h tr sl dw cw D C (wrT T q 0 (bv v)) n wc nw ds wd) := by rw [wr_0]; exact hD
  refine fh_loop (σ := Nat) (fun q9 H locs ls => (q9 ≤ 4) ∧ va_P (dC, dI) vwCl (wH cI cS h tr sl dw cw D C (wrT T q q9 (bv v)) n wc nw ds wd) H ∧ va_D A (wH cI cS h tr sl dw cw D C (wrT T q q9 (bv v)) n wc nw ds wd) ∧ va_S A s.heap H locs ∧ lv_has ls 4 [(0, .ref h), (1, .int v), (2, .int (nI q)), (3, .int (nI q9))]) (fun q9 => 4 - q9) ?_ (0) ⟨Nat.zero_le _, hP, hD, hS, lv_sub hl [1, 2, 3, 0] rfl⟩
  intro q9 H locs ls hI ih
  obtain ⟨k, rfl⟩ : ∃ z, z = q9 := ⟨_, rfl⟩
  obtain ⟨hk, hP, hD, hS, hl⟩ : (k ≤ 4) ∧ va_P (dC, dI) vwCl (wH cI cS h tr sl dw cw D C (wrT T q k (bv v)) n wc nw ds wd) H ∧ va_D A (wH cI cS h tr sl dw cw D C (wrT T q k (bv v)) n wc nw ds wd) ∧ va_S A s.heap H locs ∧ lv_has ls 4 [(0, .ref h), (1, .int v), (2, .int (nI q)), (3, .int (nI k))] := hI
  refine lv_iload_n hx hb dX1_putWord_2 rfl (lv_at hl 3 rfl) ?_
  refine lv_iconst (v := nI 4) hx hb dX1_putWord_3 (by first | decide | rfl) ?_
  refine lv_icmp_ge (tgt := 34) hx hb dX1_putWord_4 (by decide) (fun c4 => ?_) (fun c4 => ?_)
  · skip
    obtain rfl : k = 4 := Nat.le_antisymm hk ((nI_leI (by omega) (by omega)).mp c4)
    exact W.vret hx hb hr (fh_qv () trivial hP hK hD hS) hS.2.2 dX1_putWord_34
  · skip
    have hlt : k < 4 := Nat.lt_of_not_le (fun h => c4 (nI_le h (by omega)))
    refine lv_aload_n hx hb dX1_putWord_7 rfl (lv_at hl 0 rfl) ?_
    refine va_get (D := (dC, dI)) (ci := 1) (v := .ref tr) (C := RX1) (T := TX1) (N := 6) hx hb hts (by decide +kernel) hown hK hP 0 rfl rfl 0 (by decide) (hts (.fieldLink RX1 9 "FragmentHouse" "tray" "[I") (by decide +kernel)) (fun _ h9 => h9) rfl dX1_putWord_8 ?_
    refine lv_iload_n hx hb dX1_putWord_11 rfl (lv_at hl 2 rfl) ?_
    refine lv_iload_n hx hb dX1_putWord_12 rfl (lv_at hl 3 rfl) ?_
    refine lv_iadd hx hb dX1_putWord_13 ?_
    refine fh_top (y := nI (q + k)) (nI_add q k) ?_
    refine lv_iload_n hx hb dX1_putWord_14 rfl (lv_at hl 1 rfl) ?_
    refine lv_bipush (v := 24) hx hb dX1_putWord_15 (by first | decide | rfl) ?_
    refine lv_bipush (v := 8) hx hb dX1_putWord_17 (by first | decide | rfl) ?_
    refine lv_iload_n hx hb dX1_putWord_19 rfl (lv_at hl 3 rfl) ?_
    refine lv_imul hx hb dX1_putWord_20 ?_
    refine lv_isub hx hb dX1_putWord_21 ?_
    refine lv_iushr hx hb dX1_putWord_22 rfl ?_
    refine lv_sipush (v := 255) hx hb dX1_putWord_23 (by first | decide | rfl) ?_
    refine lv_iand hx hb dX1_putWord_26 ?_
    refine fh_top (y := bv v k) rfl ?_
    refine fh_iast (k := (q + k)) hx hb hK hP hD hS 1 0 rfl rfl (by omega) (by first | decide | omega) dX1_putWord_27 (fun H locs hP hD hS => ?_)
    have hP : va_P (dC, dI) vwCl (wH cI cS h tr sl dw cw D C (upd ((wrT T q k (bv v))) ((q + k)) ((bv v k))) n wc nw ds wd) H := hP
    have hD : va_D A (wH cI cS h tr sl dw cw D C (upd ((wrT T q k (bv v))) ((q + k)) ((bv v k))) n wc nw ds wd) := hD
    refine lv_iinc (v := (nI (k + 1))) (lv' := [(3, .int (nI (k + 1))), (0, .ref h), (1, .int v), (2, .int (nI q))]) hx hb dX1_putWord_28 hl (k := 3) rfl (nI_1 k) (by decide) rfl (fun ls hl => ?_)
    refine lv_goto (tgt := 2) hx hb dX1_putWord_31 (by decide) ?_
    have hP : va_P (dC, dI) vwCl (wH cI cS h tr sl dw cw D C (wrT T q (k + 1) (bv v)) n wc nw ds wd) H := by rw [← wr_s]; exact hP
    have hD : va_D A (wH cI cS h tr sl dw cw D C (wrT T q (k + 1) (bv v)) n wc nw ds wd) := by rw [← wr_s]; exact hD
    exact ih (k + 1) _ _ _ ⟨hlt, hP, hD, hS, lv_sub hl [1, 2, 3, 0] rfl⟩ (by show 4 - (k + 1) < 4 - k; omega)
set_option maxHeartbeats 4000000 in
set_option maxRecDepth 100000 in
/-- feed -/
theorem c_feed (l : Launch) (dC : Nat → ClassId) (dI : Nat → Nat → Nat) (cI cS : ClassId) (h tr sl dw cw : Nat) (D C : Nat → Nat) (T : Nat → Int32) (n wc nw : Int32) (ds : Nat → Dg) (wd : Dg) (a1 a2 a3 a4 a5 : Int32) (q : Nat) (sz : Nat) (hq : q ≤ 1480) : Met l yX1_feed wsX1_feed ({ frames := 1, cells := 0, slots := 0, locals := 23 }) (va_Pc [.ref h, .int a1, .int a2, .int a3, .int a4, .int a5] (PW (dC, dI) vwCl [(cI, .int), (cS, tDg)] (wH cI cS h tr sl dw cw D C T (nI q) wc nw ds wd) sz)) (va_Qi (S := (Nat → Int32) × Nat) (fun r u => (1460 < q ∧ r = -1 ∧ u = (T, q)) ∨ (q ≤ 1460 ∧ r = nI (q + 20) ∧ u = (fdT bv T q a1 a2 a3 a4 a5, q + 20))) (QW (dC, dI) vwCl (fun _ => [(cI, .int), (cS, tDg)]) (va_A (wH cI cS h tr sl dw cw D C T (nI q) wc nw ds wd) sz) (fun u => wH cI cS h tr sl dw cw D C u.1 (nI u.2) wc nw ds wd)) (va_A (wH cI cS h tr sl dw cw D C T (nI q) wc nw ds wd) sz)) 0 0 (va_A (wH cI cS h tr sl dw cw D C T (nI q) wc nw ds wd) sz) := by
  refine Met.ofW (cc := cX1_feed) (maxL := 6) (ret := (some .int)) (by decide) rfl ?_
  intro p e s m args below meth c s₁ B hml hv
  obtain ⟨rfl, hsz, hP, hK, hD0⟩ := hv
  have hx := B.exec
  have hb := B.bytes
  have hr := B.returns
  have hts := atoms_spec (ws := wsX1_feed) B.pre
  have hown : s.vm.findClass RX1 = some m.cls := findClass_of_methodNamed B.named
  have hlocks := B.notSynchronized
  subst hsz
  have hD := hD0.self (sz := s.heap.size)
  generalize hAe : va_A (wH cI cS h tr sl dw cw D C T (nI q) wc nw ds wd) s.heap.size = A at hD ⊢
  have hA : ∀ q : Nat, s.heap.size ≤ q → A q := fun q h => by rw [← hAe]; exact Or.inr h
  have hS : va_S A s.heap s.heap [] := va_S.rf
  have hl := lv_entry ([.ref h, .int a1, .int a2, .int a3, .int a4, .int a5]) (n := 6) (Nat.le_of_ble_eq_true rfl)
  rw [lg_entry_eq]
  generalize (lg_sl ([.ref h, .int a1, .int a2, .int a3, .int a4, .int a5]) ++ List.replicate (6 - (lg_sl ([.ref h, .int a1, .int a2, .int a3, .int a4, .int a5])).length) Slot.unset).toArray = ls at hl ⊢
  have hl : lv_has ls 6 [(0, .ref h), (1, .int a1), (2, .int a2), (3, .int a3), (4, .int a4), (5, .int a5)] := hl
  refine fh_start (fun H hH => ?_)
  have hP : va_P (dC, dI) vwCl (wH cI cS h tr sl dw cw D C T (nI q) wc nw ds wd) H := by rw [hH]; exact hP
  have hS : va_S A s.heap H [] := by rw [hH]; exact va_S.rf
  refine lv_aload_n hx hb dX1_feed_0 rfl (lv_at hl 0 rfl) ?_
  refine va_get (D := (dC, dI)) (ci := 1) (v := .int (nI q)) (C := RX1) (T := TX1) (N := 6) hx hb hts (by decide +kernel) hown hK hP 0 rfl rfl 3 (by decide) (hts (.fieldLink RX1 24 "FragmentHouse" "trayCount" "I") (by decide +kernel)) (fun _ h9 => h9) rfl dX1_feed_1 ?_
  refine lv_sipush (v := nI 1460) hx hb dX1_feed_4 (by first | decide | rfl) ?_
  refine lv_icmp_le (tgt := 12) hx hb dX1_feed_7 (by decide) (fun c7 => ?_) (fun c7 => ?_)
  · skip
    have hq2 : q ≤ 1460 := (nI_leI (by omega) (by decide)).mp c7
    refine lv_aload_n hx hb dX1_feed_12 rfl (lv_at hl 0 rfl) ?_
    refine lv_iload_n hx hb dX1_feed_13 rfl (lv_at hl 1 rfl) ?_
    refine lv_aload_n hx hb dX1_feed_14 rfl (lv_at hl 0 rfl) ?_
    refine va_get (D := (dC, dI)) (ci := 1) (v := .int (nI q)) (C := RX1) (T := TX1) (N := 6) hx hb hts (by decide +kernel) hown hK hP 0 rfl rfl 3 (by decide) (hts (.fieldLink RX1 24 "FragmentHouse" "trayCount" "I") (by decide +kernel)) (fun _ h9 => h9) rfl dX1_feed_15 ?_
    have hPc := hP.sub (ws' := wH cI cS h tr sl dw cw D C T (nI q) wc nw ds wd) [0, 1, 2, 3, 4, 5, 6, 7, 8, 9, 10, 11, 12] rfl
    have hDc := hD.sub (ws' := wH cI cS h tr sl dw cw D C T (nI q) wc nw ds wd) [0, 1, 2, 3, 4, 5, 6, 7, 8, 9, 10, 11, 12] (by decide) rfl
    refine fh_cv (wr := []) (w2 := fun _ => wH cI cS h tr sl dw cw D C (wrT T q 4 (bv a1)) (nI q) wc nw ds wd) (va_runV (As := [.int a1, .int (nI q)]) (rest := []) ⟨hx, hb, hml, hown, hts⟩ (c_putWord l dC dI cI cS h tr sl dw cw D C T (nI q) wc nw ds wd a1 (q) H.size (by omega)) (cwV 2 hts gX1_feed_X1_putWord rfl rfl rfl (by decide +kernel) ⟨Nat.le_of_ble_eq_true rfl, Nat.le_of_ble_eq_true rfl⟩) (pV_PW hK hPc hDc (ci := 1) (q0 := 0) rfl rfl) rfl rfl hl.1 rfl (lv_room (Nat.le_of_ble_eq_true rfl)) dX1_feed_18 ⟨Nat.zero_le _, Nat.zero_le _⟩) hP hD hS hA [0, 1, 2, 3, 4, 5, 6, 7, 8, 9, 10, 11, 12] [] [0, 1, 2, 3, 4, 5, 6, 7, 8, 9, 10, 11, 12] rfl rfl (by decide) (by decide) (by decide) (fun _ => rfl) (fun u H locs hw hK hP hD hS => ?_)
    have hP : va_P (dC, dI) vwCl (wH cI cS h tr sl dw cw D C (wrT T q 4 (bv a1)) (nI q) wc nw ds wd) H := hP
    have hD : va_D A (wH cI cS h tr sl dw cw D C (wrT T q 4 (bv a1)) (nI q) wc nw ds wd) := hD
    refine lv_aload_n hx hb dX1_feed_21 rfl (lv_at hl 0 rfl) ?_
    refine lv_iload_n hx hb dX1_feed_22 rfl (lv_at hl 2 rfl) ?_
    refine lv_aload_n hx hb dX1_feed_23 rfl (lv_at hl 0 rfl) ?_
    refine va_get (D := (dC, dI)) (ci := 1) (v := .int (nI q)) (C := RX1) (T := TX1) (N := 6) hx hb hts (by decide +kernel) hown hK hP 0 rfl rfl 3 (by decide) (hts (.fieldLink RX1 24 "FragmentHouse" "trayCount" "I") (by decide +kernel)) (fun _ h9 => h9) rfl dX1_feed_24 ?_
    refine lv_iconst (v := nI 4) hx hb dX1_feed_27 (by first | decide | rfl) ?_
    refine lv_iadd hx hb dX1_feed_28 ?_
    refine fh_top (y := nI (q + 4)) (nI_add q 4) ?_
    have hPc := hP.sub (ws' := wH cI cS h tr sl dw cw D C (wrT T q 4 (bv a1)) (nI q) wc nw ds wd) [0, 1, 2, 3, 4, 5, 6, 7, 8, 9, 10, 11, 12] rfl
    have hDc := hD.sub (ws' := wH cI cS h tr sl dw cw D C (wrT T q 4 (bv a1)) (nI q) wc nw ds wd) [0, 1, 2, 3, 4, 5, 6, 7, 8, 9, 10, 11, 12] (by decide) rfl
    refine fh_cv (wr := []) (w2 := fun _ => wH cI cS h tr sl dw cw D C (wrT (wrT T q 4 (bv a1)) (q + 4) 4 (bv a2)) (nI q) wc nw ds wd) (va_runV (As := [.int a2, .int (nI (q + 4))]) (rest := []) ⟨hx, hb, hml, hown, hts⟩ (c_putWord l dC dI cI cS h tr sl dw cw D C (wrT T q 4 (bv a1)) (nI q) wc nw ds wd a2 (q + 4) H.size (by omega)) (cwV 2 hts gX1_feed_X1_putWord rfl rfl rfl (by decide +kernel) ⟨Nat.le_of_ble_eq_true rfl, Nat.le_of_ble_eq_true rfl⟩) (pV_PW hK hPc hDc (ci := 1) (q0 := 0) rfl rfl) rfl rfl hl.1 rfl (lv_room (Nat.le_of_ble_eq_true rfl)) dX1_feed_29 ⟨Nat.zero_le _, Nat.zero_le _⟩) hP hD hS hA [0, 1, 2, 3, 4, 5, 6, 7, 8, 9, 10, 11, 12] [] [0, 1, 2, 3, 4, 5, 6, 7, 8, 9, 10, 11, 12] rfl rfl (by decide) (by decide) (by decide) (fun _ => rfl) (fun u H locs hw hK hP hD hS => ?_)
    have hP : va_P (dC, dI) vwCl (wH cI cS h tr sl dw cw D C (wrT (wrT T q 4 (bv a1)) (q + 4) 4 (bv a2)) (nI q) wc nw ds wd) H := hP
    have hD : va_D A (wH cI cS h tr sl dw cw D C (wrT (wrT T q 4 (bv a1)) (q + 4) 4 (bv a2)) (nI q) wc nw ds wd) := hD
    refine lv_aload_n hx hb dX1_feed_32 rfl (lv_at hl 0 rfl) ?_
    refine lv_iload_n hx hb dX1_feed_33 rfl (lv_at hl 3 rfl) ?_
    refine lv_aload_n hx hb dX1_feed_34 rfl (lv_at hl 0 rfl) ?_
    refine va_get (D := (dC, dI)) (ci := 1) (v := .int (nI q)) (C := RX1) (T := TX1) (N := 6) hx hb hts (by decide +kernel) hown hK hP 0 rfl rfl 3 (by decide) (hts (.fieldLink RX1 24 "FragmentHouse" "trayCount" "I") (by decide +kernel)) (fun _ h9 => h9) rfl dX1_feed_35 ?_
    refine lv_bipush (v := nI 8) hx hb dX1_feed_38 (by first | decide | rfl) ?_
    refine lv_iadd hx hb dX1_feed_40 ?_
    refine fh_top (y := nI (q + 8)) (nI_add q 8) ?_
    have hPc := hP.sub (ws' := wH cI cS h tr sl dw cw D C (wrT (wrT T q 4 (bv a1)) (q + 4) 4 (bv a2)) (nI q) wc nw ds wd) [0, 1, 2, 3, 4, 5, 6, 7, 8, 9, 10, 11, 12] rfl
    have hDc := hD.sub (ws' := wH cI cS h tr sl dw cw D C (wrT (wrT T q 4 (bv a1)) (q + 4) 4 (bv a2)) (nI q) wc nw ds wd) [0, 1, 2, 3, 4, 5, 6, 7, 8, 9, 10, 11, 12] (by decide) rfl
    refine fh_cv (wr := []) (w2 := fun _ => wH cI cS h tr sl dw cw D C (wrT (wrT (wrT T q 4 (bv a1)) (q + 4) 4 (bv a2)) (q + 8) 4 (bv a3)) (nI q) wc nw ds wd) (va_runV (As := [.int a3, .int (nI (q + 8))]) (rest := []) ⟨hx, hb, hml, hown, hts⟩ (c_putWord l dC dI cI cS h tr sl dw cw D C (wrT (wrT T q 4 (bv a1)) (q + 4) 4 (bv a2)) (nI q) wc nw ds wd a3 (q + 8) H.size (by omega)) (cwV 2 hts gX1_feed_X1_putWord rfl rfl rfl (by decide +kernel) ⟨Nat.le_of_ble_eq_true rfl, Nat.le_of_ble_eq_true rfl⟩) (pV_PW hK hPc hDc (ci := 1) (q0 := 0) rfl rfl) rfl rfl hl.1 rfl (lv_room (Nat.le_of_ble_eq_true rfl)) dX1_feed_41 ⟨Nat.zero_le _, Nat.zero_le _⟩) hP hD hS hA [0, 1, 2, 3, 4, 5, 6, 7, 8, 9, 10, 11, 12] [] [0, 1, 2, 3, 4, 5, 6, 7, 8, 9, 10, 11, 12] rfl rfl (by decide) (by decide) (by decide) (fun _ => rfl) (fun u H locs hw hK hP hD hS => ?_)
    have hP : va_P (dC, dI) vwCl (wH cI cS h tr sl dw cw D C (wrT (wrT (wrT T q 4 (bv a1)) (q + 4) 4 (bv a2)) (q + 8) 4 (bv a3)) (nI q) wc nw ds wd) H := hP
    have hD : va_D A (wH cI cS h tr sl dw cw D C (wrT (wrT (wrT T q 4 (bv a1)) (q + 4) 4 (bv a2)) (q + 8) 4 (bv a3)) (nI q) wc nw ds wd) := hD
    refine lv_aload_n hx hb dX1_feed_44 rfl (lv_at hl 0 rfl) ?_
    refine lv_iload hx hb dX1_feed_45 (lv_at hl 4 rfl) ?_
    refine lv_aload_n hx hb dX1_feed_47 rfl (lv_at hl 0 rfl) ?_
    refine va_get (D := (dC, dI)) (ci := 1) (v := .int (nI q)) (C := RX1) (T := TX1) (N := 6) hx hb hts (by decide +kernel) hown hK hP 0 rfl rfl 3 (by decide) (hts (.fieldLink RX1 24 "FragmentHouse" "trayCount" "I") (by decide +kernel)) (fun _ h9 => h9) rfl dX1_feed_48 ?_
    refine lv_bipush (v := nI 12) hx hb dX1_feed_51 (by first | decide | rfl) ?_
    refine lv_iadd hx hb dX1_feed_53 ?_
    refine fh_top (y := nI (q + 12)) (nI_add q 12) ?_
    have hPc := hP.sub (ws' := wH cI cS h tr sl dw cw D C (wrT (wrT (wrT T q 4 (bv a1)) (q + 4) 4 (bv a2)) (q + 8) 4 (bv a3)) (nI q) wc nw ds wd) [0, 1, 2, 3, 4, 5, 6, 7, 8, 9, 10, 11, 12] rfl
    have hDc := hD.sub (ws' := wH cI cS h tr sl dw cw D C (wrT (wrT (wrT T q 4 (bv a1)) (q + 4) 4 (bv a2)) (q + 8) 4 (bv a3)) (nI q) wc nw ds wd) [0, 1, 2, 3, 4, 5, 6, 7, 8, 9, 10, 11, 12] (by decide) rfl
    refine fh_cv (wr := []) (w2 := fun _ => wH cI cS h tr sl dw cw D C (wrT (wrT (wrT (wrT T q 4 (bv a1)) (q + 4) 4 (bv a2)) (q + 8) 4 (bv a3)) (q + 12) 4 (bv a4)) (nI q) wc nw ds wd) (va_runV (As := [.int a4, .int (nI (q + 12))]) (rest := []) ⟨hx, hb, hml, hown, hts⟩ (c_putWord l dC dI cI cS h tr sl dw cw D C (wrT (wrT (wrT T q 4 (bv a1)) (q + 4) 4 (bv a2)) (q + 8) 4 (bv a3)) (nI q) wc nw ds wd a4 (q + 12) H.size (by omega)) (cwV 2 hts gX1_feed_X1_putWord rfl rfl rfl (by decide +kernel) ⟨Nat.le_of_ble_eq_true rfl, Nat.le_of_ble_eq_true rfl⟩) (pV_PW hK hPc hDc (ci := 1) (q0 := 0) rfl rfl) rfl rfl hl.1 rfl (lv_room (Nat.le_of_ble_eq_true rfl)) dX1_feed_54 ⟨Nat.zero_le _, Nat.zero_le _⟩) hP hD hS hA [0, 1, 2, 3, 4, 5, 6, 7, 8, 9, 10, 11, 12] [] [0, 1, 2, 3, 4, 5, 6, 7, 8, 9, 10, 11, 12] rfl rfl (by decide) (by decide) (by decide) (fun _ => rfl) (fun u H locs hw hK hP hD hS => ?_)
    have hP : va_P (dC, dI) vwCl (wH cI cS h tr sl dw cw D C (wrT (wrT (wrT (wrT T q 4 (bv a1)) (q + 4) 4 (bv a2)) (q + 8) 4 (bv a3)) (q + 12) 4 (bv a4)) (nI q) wc nw ds wd) H := hP
    have hD : va_D A (wH cI cS h tr sl dw cw D C (wrT (wrT (wrT (wrT T q 4 (bv a1)) (q + 4) 4 (bv a2)) (q + 8) 4 (bv a3)) (q + 12) 4 (bv a4)) (nI q) wc nw ds wd) := hD
    refine lv_aload_n hx hb dX1_feed_57 rfl (lv_at hl 0 rfl) ?_
    refine lv_iload hx hb dX1_feed_58 (lv_at hl 5 rfl) ?_
    refine lv_aload_n hx hb dX1_feed_60 rfl (lv_at hl 0 rfl) ?_
    refine va_get (D := (dC, dI)) (ci := 1) (v := .int (nI q)) (C := RX1) (T := TX1) (N := 6) hx hb hts (by decide +kernel) hown hK hP 0 rfl rfl 3 (by decide) (hts (.fieldLink RX1 24 "FragmentHouse" "trayCount" "I") (by decide +kernel)) (fun _ h9 => h9) rfl dX1_feed_61 ?_
    refine lv_bipush (v := nI 16) hx hb dX1_feed_64 (by first | decide | rfl) ?_
    refine lv_iadd hx hb dX1_feed_66 ?_
    refine fh_top (y := nI (q + 16)) (nI_add q 16) ?_
    have hPc := hP.sub (ws' := wH cI cS h tr sl dw cw D C (wrT (wrT (wrT (wrT T q 4 (bv a1)) (q + 4) 4 (bv a2)) (q + 8) 4 (bv a3)) (q + 12) 4 (bv a4)) (nI q) wc nw ds wd) [0, 1, 2, 3, 4, 5, 6, 7, 8, 9, 10, 11, 12] rfl
    have hDc := hD.sub (ws' := wH cI cS h tr sl dw cw D C (wrT (wrT (wrT (wrT T q 4 (bv a1)) (q + 4) 4 (bv a2)) (q + 8) 4 (bv a3)) (q + 12) 4 (bv a4)) (nI q) wc nw ds wd) [0, 1, 2, 3, 4, 5, 6, 7, 8, 9, 10, 11, 12] (by decide) rfl
    refine fh_cv (wr := []) (w2 := fun _ => wH cI cS h tr sl dw cw D C (wrT (wrT (wrT (wrT (wrT T q 4 (bv a1)) (q + 4) 4 (bv a2)) (q + 8) 4 (bv a3)) (q + 12) 4 (bv a4)) (q + 16) 4 (bv a5)) (nI q) wc nw ds wd) (va_runV (As := [.int a5, .int (nI (q + 16))]) (rest := []) ⟨hx, hb, hml, hown, hts⟩ (c_putWord l dC dI cI cS h tr sl dw cw D C (wrT (wrT (wrT (wrT T q 4 (bv a1)) (q + 4) 4 (bv a2)) (q + 8) 4 (bv a3)) (q + 12) 4 (bv a4)) (nI q) wc nw ds wd a5 (q + 16) H.size (by omega)) (cwV 2 hts gX1_feed_X1_putWord rfl rfl rfl (by decide +kernel) ⟨Nat.le_of_ble_eq_true rfl, Nat.le_of_ble_eq_true rfl⟩) (pV_PW hK hPc hDc (ci := 1) (q0 := 0) rfl rfl) rfl rfl hl.1 rfl (lv_room (Nat.le_of_ble_eq_true rfl)) dX1_feed_67 ⟨Nat.zero_le _, Nat.zero_le _⟩) hP hD hS hA [0, 1, 2, 3, 4, 5, 6, 7, 8, 9, 10, 11, 12] [] [0, 1, 2, 3, 4, 5, 6, 7, 8, 9, 10, 11, 12] rfl rfl (by decide) (by decide) (by decide) (fun _ => rfl) (fun u H locs hw hK hP hD hS => ?_)
    have hP : va_P (dC, dI) vwCl (wH cI cS h tr sl dw cw D C (wrT (wrT (wrT (wrT (wrT T q 4 (bv a1)) (q + 4) 4 (bv a2)) (q + 8) 4 (bv a3)) (q + 12) 4 (bv a4)) (q + 16) 4 (bv a5)) (nI q) wc nw ds wd) H := hP
    have hD : va_D A (wH cI cS h tr sl dw cw D C (wrT (wrT (wrT (wrT (wrT T q 4 (bv a1)) (q + 4) 4 (bv a2)) (q + 8) 4 (bv a3)) (q + 12) 4 (bv a4)) (q + 16) 4 (bv a5)) (nI q) wc nw ds wd) := hD
    refine lv_aload_n hx hb dX1_feed_70 rfl (lv_at hl 0 rfl) ?_
    refine lv_dup hx hb dX1_feed_71 rfl ?_
    refine va_get (D := (dC, dI)) (ci := 1) (v := .int (nI q)) (C := RX1) (T := TX1) (N := 6) hx hb hts (by decide +kernel) hown hK hP 0 rfl rfl 3 (by decide) (hts (.fieldLink RX1 24 "FragmentHouse" "trayCount" "I") (by decide +kernel)) (fun _ h9 => h9) rfl dX1_feed_72 ?_
    refine lv_bipush (v := nI 20) hx hb dX1_feed_75 (by first | decide | rfl) ?_
    refine lv_iadd hx hb dX1_feed_77 ?_
    refine fh_top (y := nI (q + 20)) (nI_add q 20) ?_
    refine va_put (D := (dC, dI)) (ci := 1) (v := .int (nI (q + 20))) (ty := .int) (C := RX1) (T := TX1) (N := 6) hx hb hts (by decide +kernel) tyX1 tyX1_ok nmX1 hown hK hP hD hS 0 rfl rfl 3 (by decide) (hts (.fieldLink RX1 24 "FragmentHouse" "trayCount" "I") (by decide +kernel)) (fun _ h9 => h9) rfl (by decide +kernel) rfl rfl (Nat.le_of_ble_eq_true rfl) dX1_feed_78 (fun H locs hP hD hS => ?_)
    have hP : va_P (dC, dI) vwCl (wH cI cS h tr sl dw cw D C (wrT (wrT (wrT (wrT (wrT T q 4 (bv a1)) (q + 4) 4 (bv a2)) (q + 8) 4 (bv a3)) (q + 12) 4 (bv a4)) (q + 16) 4 (bv a5)) ((nI (q + 20))) wc nw ds wd) H := hP
    have hD : va_D A (wH cI cS h tr sl dw cw D C (wrT (wrT (wrT (wrT (wrT T q 4 (bv a1)) (q + 4) 4 (bv a2)) (q + 8) 4 (bv a3)) (q + 12) 4 (bv a4)) (q + 16) 4 (bv a5)) ((nI (q + 20))) wc nw ds wd) := hD
    refine lv_aload_n hx hb dX1_feed_81 rfl (lv_at hl 0 rfl) ?_
    refine va_get (D := (dC, dI)) (ci := 1) (v := .int ((nI (q + 20)))) (C := RX1) (T := TX1) (N := 6) hx hb hts (by decide +kernel) hown hK hP 0 rfl rfl 3 (by decide) (hts (.fieldLink RX1 24 "FragmentHouse" "trayCount" "I") (by decide +kernel)) (fun _ h9 => h9) rfl dX1_feed_82 ?_
    exact W.iret hx hb hr (fh_qi (fdT bv T q a1 a2 a3 a4 a5, q + 20) (Or.inr ⟨hq2, rfl, rfl⟩) hP hK hD hS) hS.2.2 dX1_feed_85
  · skip
    refine lv_iconst (v := (-1)) hx hb dX1_feed_10 (by first | decide | rfl) ?_
    exact W.iret hx hb hr (fh_qi (T, q) (Or.inl ⟨by rcases Nat.lt_or_ge 1460 q with z | z; exact z; exact absurd (nI_le z (by decide)) c7, rfl, rfl⟩) hP hK hD hS) hS.2.2 dX1_feed_11
set_option maxHeartbeats 4000000 in
set_option maxRecDepth 100000 in
/-- end -/
theorem c_end (l : Launch) (dC : Nat → ClassId) (dI : Nat → Nat → Nat) (cI cS : ClassId) (h tr sl dw cw : Nat) (D C : Nat → Nat) (T : Nat → Int32) (n wc nw : Int32) (ds : Nat → Dg) (wd : Dg) (p1 : Int32) (q : Nat) (sz : Nat) (hq : q ≤ 1480) : Met l yX1_end wsX1_end ({ frames := 0, cells := 0, slots := 0, locals := 0 }) (va_Pc [.ref h, .int p1] (PW (dC, dI) vwCl [(cI, .int), (cS, tDg)] (wH cI cS h tr sl dw cw D C T (nI q) wc nw ds wd) sz)) (va_Qi (S := Nat) (fun r u => (r = -1 ∧ (p1 < 0 ∨ ¬ p1 ≤ nI q) ∧ u = q) ∨ (∃ k, k ≤ q ∧ p1 = nI k ∧ r = nI k ∧ u = k)) (QW (dC, dI) vwCl (fun _ => [(cI, .int), (cS, tDg)]) (va_A (wH cI cS h tr sl dw cw D C T (nI q) wc nw ds wd) sz) (fun u => wH cI cS h tr sl dw cw D C T (nI u) wc nw ds wd)) (va_A (wH cI cS h tr sl dw cw D C T (nI q) wc nw ds wd) sz)) 0 0 (va_A (wH cI cS h tr sl dw cw D C T (nI q) wc nw ds wd) sz) := by
  refine Met.ofW (cc := cX1_end) (maxL := 2) (ret := (some .int)) (by decide) rfl ?_
  intro p e s m args below meth c s₁ B hml hv
  obtain ⟨rfl, hsz, hP, hK, hD0⟩ := hv
  have hx := B.exec
  have hb := B.bytes
  have hr := B.returns
  have hts := atoms_spec (ws := wsX1_end) B.pre
  have hown : s.vm.findClass RX1 = some m.cls := findClass_of_methodNamed B.named
  have hlocks := B.notSynchronized
  subst hsz
  have hD := hD0.self (sz := s.heap.size)
  generalize hAe : va_A (wH cI cS h tr sl dw cw D C T (nI q) wc nw ds wd) s.heap.size = A at hD ⊢
  have hA : ∀ q : Nat, s.heap.size ≤ q → A q := fun q h => by rw [← hAe]; exact Or.inr h
  have hS : va_S A s.heap s.heap [] := va_S.rf
  have hl := lv_entry ([.ref h, .int p1]) (n := 2) (Nat.le_of_ble_eq_true rfl)
  rw [lg_entry_eq]
  generalize (lg_sl ([.ref h, .int p1]) ++ List.replicate (2 - (lg_sl ([.ref h, .int p1])).length) Slot.unset).toArray = ls at hl ⊢
  have hl : lv_has ls 2 [(0, .ref h), (1, .int p1)] := hl
  refine fh_start (fun H hH => ?_)
  have hP : va_P (dC, dI) vwCl (wH cI cS h tr sl dw cw D C T (nI q) wc nw ds wd) H := by rw [hH]; exact hP
  have hS : va_S A s.heap H [] := by rw [hH]; exact va_S.rf
  refine lv_iload_n hx hb dX1_end_0 rfl (lv_at hl 1 rfl) ?_
  refine lv_if_lt (tgt := 12) hx hb dX1_end_1 (by decide) (fun c1 => ?_) (fun c1 => ?_)
  · skip
    refine lv_iconst (v := (-1)) hx hb dX1_end_12 (by first | decide | rfl) ?_
    exact W.iret hx hb hr (fh_qi q (Or.inl ⟨rfl, Or.inl c1, rfl⟩) hP hK hD hS) hS.2.2 dX1_end_13
  · skip
    refine lv_iload_n hx hb dX1_end_4 rfl (lv_at hl 1 rfl) ?_
    refine lv_aload_n hx hb dX1_end_5 rfl (lv_at hl 0 rfl) ?_
    refine va_get (D := (dC, dI)) (ci := 1) (v := .int (nI q)) (C := RX1) (T := TX1) (N := 6) hx hb hts (by decide +kernel) hown hK hP 0 rfl rfl 3 (by decide) (hts (.fieldLink RX1 24 "FragmentHouse" "trayCount" "I") (by decide +kernel)) (fun _ h9 => h9) rfl dX1_end_6 ?_
    refine lv_icmp_le (tgt := 14) hx hb dX1_end_9 (by decide) (fun c9 => ?_) (fun c9 => ?_)
    · skip
      obtain ⟨k, hk, rfl⟩ := nI_of c1
      refine lv_aload_n hx hb dX1_end_14 rfl (lv_at hl 0 rfl) ?_
      refine lv_iload_n hx hb dX1_end_15 rfl (lv_at hl 1 rfl) ?_
      refine va_put (D := (dC, dI)) (ci := 1) (v := .int (nI k)) (ty := .int) (C := RX1) (T := TX1) (N := 6) hx hb hts (by decide +kernel) tyX1 tyX1_ok nmX1 hown hK hP hD hS 0 rfl rfl 3 (by decide) (hts (.fieldLink RX1 24 "FragmentHouse" "trayCount" "I") (by decide +kernel)) (fun _ h9 => h9) rfl (by decide +kernel) rfl rfl (Nat.le_of_ble_eq_true rfl) dX1_end_16 (fun H locs hP hD hS => ?_)
      have hP : va_P (dC, dI) vwCl (wH cI cS h tr sl dw cw D C T ((nI k)) wc nw ds wd) H := hP
      have hD : va_D A (wH cI cS h tr sl dw cw D C T ((nI k)) wc nw ds wd) := hD
      refine lv_iload_n hx hb dX1_end_19 rfl (lv_at hl 1 rfl) ?_
      exact W.iret hx hb hr (fh_qi k (Or.inr ⟨k, (nI_leI hk (by omega)).mp c9, rfl, rfl, rfl⟩) hP hK hD hS) hS.2.2 dX1_end_20
    · skip
      refine lv_iconst (v := (-1)) hx hb dX1_end_12 (by first | decide | rfl) ?_
      exact W.iret hx hb hr (fh_qi q (Or.inl ⟨rfl, Or.inr c9, rfl⟩) hP hK hD hS) hS.2.2 dX1_end_13
set_option maxHeartbeats 4000000 in
set_option maxRecDepth 100000 in
/-- isSound -/
theorem c_isSound (l : Launch) (dC : Nat → ClassId) (dI : Nat → Nat → Nat) (tys : List (ClassId × FieldType)) (a b : Nat) (p2 : Int32) (sz : Nat) (ha : a ≤ 65528) (hbb : b ≤ 1480) : Met l yX1_isSound wsX1_isSound ({ frames := 0, cells := 0, slots := 0, locals := 0 }) (va_Pc [.int (nI a), .int (nI b), .int p2] (PW (dC, dI) vwCl tys ([]) sz)) (va_Qi (S := Unit) (fun r _ => (r = 1 ∧ Snd a b p2) ∨ (r = 0 ∧ ¬ Snd a b p2)) (QW (dC, dI) vwCl (fun _ => tys) (va_A ([]) sz) (fun _ => [])) (va_A ([]) sz)) 0 0 (va_A ([]) sz) := by
  refine Met.ofW (cc := cX1_isSound) (maxL := 3) (ret := (some .boolean)) (by decide) rfl ?_
  intro p e s m args below meth c s₁ B hml hv
  obtain ⟨rfl, hsz, hP, hK, hD0⟩ := hv
  have hx := B.exec
  have hb := B.bytes
  have hr := B.returns
  have hts := atoms_spec (ws := wsX1_isSound) B.pre
  have hown : s.vm.findClass RX1 = some m.cls := findClass_of_methodNamed B.named
  have hlocks := B.notSynchronized
  subst hsz
  have hD := hD0.self (sz := s.heap.size)
  generalize hAe : va_A ([]) s.heap.size = A at hD ⊢
  have hA : ∀ q : Nat, s.heap.size ≤ q → A q := fun q h => by rw [← hAe]; exact Or.inr h
  have hS : va_S A s.heap s.heap [] := va_S.rf
  have hl := lv_entry ([.int (nI a), .int (nI b), .int p2]) (n := 3) (Nat.le_of_ble_eq_true rfl)
  rw [lg_entry_eq]
  generalize (lg_sl ([.int (nI a), .int (nI b), .int p2]) ++ List.replicate (3 - (lg_sl ([.int (nI a), .int (nI b), .int p2])).length) Slot.unset).toArray = ls at hl ⊢
  have hl : lv_has ls 3 [(0, .int (nI a)), (1, .int (nI b)), (2, .int p2)] := hl
  refine fh_start (fun H hH => ?_)
  have hP : va_P (dC, dI) vwCl ([]) H := by rw [hH]; exact hP
  have hS : va_S A s.heap H [] := by rw [hH]; exact va_S.rf
  refine lv_iload_n hx hb dX1_isSound_0 rfl (lv_at hl 0 rfl) ?_
  refine lv_iload_n hx hb dX1_isSound_1 rfl (lv_at hl 1 rfl) ?_
  refine lv_iadd hx hb dX1_isSound_2 ?_
  refine fh_top (y := nI (a + b)) (nI_add a b) ?_
  refine lv_sipush (v := nI 4096) hx hb dX1_isSound_3 (by first | decide | rfl) ?_
  refine lv_icmp_le (tgt := 11) hx hb dX1_isSound_6 (by decide) (fun c6 => ?_) (fun c6 => ?_)
  · skip
    have h6 : a + b ≤ 4096 := (nI_leI (by omega) (by decide)).mp c6
    refine lv_iload_n hx hb dX1_isSound_11 rfl (lv_at hl 2 rfl) ?_
    refine lv_if_ne (tgt := 26) hx hb dX1_isSound_12 (by decide) (fun c12 => ?_) (fun c12 => ?_)
    · skip
      refine lv_iconst (v := 1) hx hb dX1_isSound_26 (by first | decide | rfl) ?_
      refine lv_goto (tgt := 31) hx hb dX1_isSound_27 (by decide) ?_
      exact W.zret hx hb hr rfl (fh_qi () (Or.inl ⟨rfl, h6, Or.inl c12⟩) hP hK hD hS) hS.2.2 dX1_isSound_31
    · skip
      refine lv_iload_n hx hb dX1_isSound_15 rfl (lv_at hl 1 rfl) ?_
      refine lv_if_le (tgt := 30) hx hb dX1_isSound_16 (by decide) (fun c16 => ?_) (fun c16 => ?_)
      · skip
        refine lv_iconst (v := 0) hx hb dX1_isSound_30 (by first | decide | rfl) ?_
        exact W.zret hx hb hr rfl (fh_qi () (Or.inr ⟨rfl, fun q => q.2.elim (fun z => z c12) (fun z => nI_nle z.1 (by omega) c16)⟩) hP hK hD hS) hS.2.2 dX1_isSound_31
      · skip
        have hb0 : 0 < b := by rcases Nat.eq_zero_or_pos b with z | z; subst z; exact absurd (by decide) c16; exact z
        refine lv_iload_n hx hb dX1_isSound_19 rfl (lv_at hl 1 rfl) ?_
        refine lv_bipush (v := nI 8) hx hb dX1_isSound_20 (by first | decide | rfl) ?_
        refine lv_irem hx hb dX1_isSound_22 (by decide) ?_
        refine fh_top (y := nI (b % 8)) (pk_rem (by omega) (by decide) (by decide)) ?_
        refine lv_if_ne (tgt := 30) hx hb dX1_isSound_23 (by decide) (fun c23 => ?_) (fun c23 => ?_)
        · skip
          refine lv_iconst (v := 0) hx hb dX1_isSound_30 (by first | decide | rfl) ?_
          exact W.zret hx hb hr rfl (fh_qi () (Or.inr ⟨rfl, fun q => q.2.elim (fun z => z c12) (fun z => c23 (by rw [z.2]; rfl))⟩) hP hK hD hS) hS.2.2 dX1_isSound_31
        · skip
          have hb8 : b % 8 = 0 := by rcases Nat.eq_zero_or_pos (b % 8) with z | z; exact z; exact absurd c23 (nI_ne0 z (by omega))
          refine lv_iconst (v := 1) hx hb dX1_isSound_26 (by first | decide | rfl) ?_
          refine lv_goto (tgt := 31) hx hb dX1_isSound_27 (by decide) ?_
          exact W.zret hx hb hr rfl (fh_qi () (Or.inl ⟨rfl, h6, Or.inr ⟨hb0, hb8⟩⟩) hP hK hD hS) hS.2.2 dX1_isSound_31
  · skip
    refine lv_iconst (v := 0) hx hb dX1_isSound_9 (by first | decide | rfl) ?_
    exact W.zret hx hb hr rfl (fh_qi () (Or.inr ⟨rfl, fun q => c6 (nI_le q.1 (by decide))⟩) hP hK hD hS) hS.2.2 dX1_isSound_10
set_option maxHeartbeats 4000000 in
set_option maxRecDepth 100000 in
/-- making -/
theorem c_making (l : Launch) (dC : Nat → ClassId) (dI : Nat → Nat → Nat) (cI cS : ClassId) (h tr sl dw cw : Nat) (D C : Nat → Nat) (T : Nat → Int32) (n wc nw : Int32) (ds : Nat → Dg) (wd : Dg) (sz : Nat)  : Met l yX1_making wsX1_making ({ frames := 0, cells := 0, slots := 0, locals := 0 }) (va_Pc [.ref h] (PW (dC, dI) vwCl [(cI, .int), (cS, tDg)] (wH cI cS h tr sl dw cw D C T n wc nw ds wd) sz)) (va_Qi (S := Unit) (fun r _ => r = nI (mkC ds 4)) (QW (dC, dI) vwCl (fun _ => [(cI, .int), (cS, tDg)]) (va_A (wH cI cS h tr sl dw cw D C T n wc nw ds wd) sz) (fun _ => wH cI cS h tr sl dw cw D C T n wc nw ds wd)) (va_A (wH cI cS h tr sl dw cw D C T n wc nw ds wd) sz)) 0 0 (va_A (wH cI cS h tr sl dw cw D C T n wc nw ds wd) sz) := by
  refine Met.ofW (cc := cX1_making) (maxL := 3) (ret := (some .int)) (by decide) rfl ?_
  intro p e s m args below meth c s₁ B hml hv
  obtain ⟨rfl, hsz, hP, hK, hD0⟩ := hv
  have hx := B.exec
  have hb := B.bytes
  have hr := B.returns
  have hts := atoms_spec (ws := wsX1_making) B.pre
  have hown : s.vm.findClass RX1 = some m.cls := findClass_of_methodNamed B.named
  have hlocks := B.notSynchronized
  subst hsz
  have hD := hD0.self (sz := s.heap.size)
  generalize hAe : va_A (wH cI cS h tr sl dw cw D C T n wc nw ds wd) s.heap.size = A at hD ⊢
  have hA : ∀ q : Nat, s.heap.size ≤ q → A q := fun q h => by rw [← hAe]; exact Or.inr h
  have hS : va_S A s.heap s.heap [] := va_S.rf
  have hl := lv_entry ([.ref h]) (n := 3) (Nat.le_of_ble_eq_true rfl)
  rw [lg_entry_eq]
  generalize (lg_sl ([.ref h]) ++ List.replicate (3 - (lg_sl ([.ref h])).length) Slot.unset).toArray = ls at hl ⊢
  have hl : lv_has ls 3 [(0, .ref h)] := hl
  refine fh_start (fun H hH => ?_)
  have hP : va_P (dC, dI) vwCl (wH cI cS h tr sl dw cw D C T n wc nw ds wd) H := by rw [hH]; exact hP
  have hS : va_S A s.heap H [] := by rw [hH]; exact va_S.rf
  refine lv_iconst (v := nI (mkC ds 0)) hx hb dX1_making_0 (by first | decide | rfl) ?_
  refine lv_istore_n (lv' := [(1, .int (nI (mkC ds 0))), (0, .ref h)]) hx hb dX1_making_1 rfl hl (by decide) rfl (fun ls hl => ?_)
  refine lv_iconst (v := nI 0) hx hb dX1_making_2 (by first | decide | rfl) ?_
  refine lv_istore_n (lv' := [(2, .int (nI 0)), (1, .int (nI (mkC ds 0))), (0, .ref h)]) hx hb dX1_making_3 rfl hl (by decide) rfl (fun ls hl => ?_)
  refine fh_loop (σ := Nat) (fun q9 H locs ls => (q9 ≤ 4) ∧ va_P (dC, dI) vwCl (wH cI cS h tr sl dw cw D C T n wc nw ds wd) H ∧ va_D A (wH cI cS h tr sl dw cw D C T n wc nw ds wd) ∧ va_S A s.heap H locs ∧ lv_has ls 3 [(0, .ref h), (1, .int (nI (mkC ds q9))), (2, .int (nI q9))]) (fun q9 => 4 - q9) ?_ (0) ⟨Nat.zero_le _, hP, hD, hS, lv_sub hl [2, 1, 0] rfl⟩
  intro q9 H locs ls hI ih
  obtain ⟨k, rfl⟩ : ∃ z, z = q9 := ⟨_, rfl⟩
  obtain ⟨hk, hP, hD, hS, hl⟩ : (k ≤ 4) ∧ va_P (dC, dI) vwCl (wH cI cS h tr sl dw cw D C T n wc nw ds wd) H ∧ va_D A (wH cI cS h tr sl dw cw D C T n wc nw ds wd) ∧ va_S A s.heap H locs ∧ lv_has ls 3 [(0, .ref h), (1, .int (nI (mkC ds k))), (2, .int (nI k))] := hI
  refine lv_iload_n hx hb dX1_making_4 rfl (lv_at hl 2 rfl) ?_
  refine lv_iconst (v := nI 4) hx hb dX1_making_5 (by first | decide | rfl) ?_
  refine lv_icmp_ge (tgt := 30) hx hb dX1_making_6 (by decide) (fun c6 => ?_) (fun c6 => ?_)
  · skip
    refine lv_iload_n hx hb dX1_making_30 rfl (lv_at hl 1 rfl) ?_
    obtain rfl : k = 4 := Nat.le_antisymm hk ((nI_leI (by omega) (by omega)).mp c6)
    exact W.iret hx hb hr (fh_qi () rfl hP hK hD hS) hS.2.2 dX1_making_31
  · skip
    have hlt : k < 4 := Nat.lt_of_not_le (fun h => c6 (nI_le h (by omega)))
    refine lv_aload_n hx hb dX1_making_9 rfl (lv_at hl 0 rfl) ?_
    refine va_get (D := (dC, dI)) (ci := 1) (v := .ref sl) (C := RX1) (T := TX1) (N := 6) hx hb hts (by decide +kernel) hown hK hP 0 rfl rfl 1 (by decide) (hts (.fieldLink RX1 15 "FragmentHouse" "slots" "[LFragmentHouse$Datagram;") (by decide +kernel)) (fun _ h9 => h9) rfl dX1_making_10 ?_
    refine lv_iload_n hx hb dX1_making_13 rfl (lv_at hl 2 rfl) ?_
    refine fh_aald (k := k) hx hb hK hP 2 1 rfl rfl hlt (by decide) rfl dX1_making_14 ?_
    refine va_get (D := (dC, dI)) (ci := 0) (v := .int ((ds k).1 1)) (C := RX0) (T := TX0) (N := 9) hx hb hts (by decide +kernel) hown hK hP (5 + 2 * k) (wH_o hlt) rfl 1 (by decide) (hts (.fieldLink RX1 51 "FragmentHouse$Datagram" "inMaking" "Z") (by decide +kernel)) (fun _ h9 => h9) rfl dX1_making_15 ?_
    refine lv_if_eq (tgt := 24) hx hb dX1_making_18 (by decide) (fun c18 => ?_) (fun c18 => ?_)
    · skip
      refine lv_iinc (v := (nI (k + 1))) (lv' := [(2, .int (nI (k + 1))), (0, .ref h), (1, .int (nI (mkC ds k)))]) hx hb dX1_making_24 hl (k := 2) rfl (nI_1 k) (by decide) rfl (fun ls hl => ?_)
      refine lv_goto (tgt := 4) hx hb dX1_making_27 (by decide) ?_
      rw [← mkC_s2 c18] at hl
      exact ih (k + 1) _ _ _ ⟨hlt, hP, hD, hS, lv_sub hl [1, 2, 0] rfl⟩ (by show 4 - (k + 1) < 4 - k; omega)
    · skip
      refine lv_iinc (v := (nI ((mkC ds k) + 1))) (lv' := [(1, .int (nI ((mkC ds k) + 1))), (0, .ref h), (2, .int (nI k))]) hx hb dX1_making_21 hl (k := 1) rfl (nI_1 ((mkC ds k))) (by decide) rfl (fun ls hl => ?_)
      refine lv_iinc (v := (nI (k + 1))) (lv' := [(2, .int (nI (k + 1))), (1, .int (nI ((mkC ds k) + 1))), (0, .ref h)]) hx hb dX1_making_24 hl (k := 2) rfl (nI_1 k) (by decide) rfl (fun ls hl => ?_)
      refine lv_goto (tgt := 4) hx hb dX1_making_27 (by decide) ?_
      rw [← mkC_s1 c18] at hl
      exact ih (k + 1) _ _ _ ⟨hlt, hP, hD, hS, lv_sub hl [2, 1, 0] rfl⟩ (by show 4 - (k + 1) < 4 - k; omega)
set_option maxHeartbeats 4000000 in
set_option maxRecDepth 100000 in
/-- made -/
theorem c_made (l : Launch) (dC : Nat → ClassId) (dI : Nat → Nat → Nat) (cI cS : ClassId) (h tr sl dw cw : Nat) (D C : Nat → Nat) (T : Nat → Int32) (n wc nw : Int32) (ds : Nat → Dg) (wd : Dg) (sz : Nat)  : Met l yX1_made wsX1_made ({ frames := 0, cells := 0, slots := 0, locals := 0 }) (va_Pc [.ref h] (PW (dC, dI) vwCl [(cI, .int), (cS, tDg)] (wH cI cS h tr sl dw cw D C T n wc nw ds wd) sz)) (va_Qi (S := Unit) (fun r _ => r = wc) (QW (dC, dI) vwCl (fun _ => [(cI, .int), (cS, tDg)]) (va_A (wH cI cS h tr sl dw cw D C T n wc nw ds wd) sz) (fun _ => wH cI cS h tr sl dw cw D C T n wc nw ds wd)) (va_A (wH cI cS h tr sl dw cw D C T n wc nw ds wd) sz)) 0 0 (va_A (wH cI cS h tr sl dw cw D C T n wc nw ds wd) sz) := by
  refine Met.ofW (cc := cX1_made) (maxL := 1) (ret := (some .int)) (by decide) rfl ?_
  intro p e s m args below meth c s₁ B hml hv
  obtain ⟨rfl, hsz, hP, hK, hD0⟩ := hv
  have hx := B.exec
  have hb := B.bytes
  have hr := B.returns
  have hts := atoms_spec (ws := wsX1_made) B.pre
  have hown : s.vm.findClass RX1 = some m.cls := findClass_of_methodNamed B.named
  have hlocks := B.notSynchronized
  subst hsz
  have hD := hD0.self (sz := s.heap.size)
  generalize hAe : va_A (wH cI cS h tr sl dw cw D C T n wc nw ds wd) s.heap.size = A at hD ⊢
  have hA : ∀ q : Nat, s.heap.size ≤ q → A q := fun q h => by rw [← hAe]; exact Or.inr h
  have hS : va_S A s.heap s.heap [] := va_S.rf
  have hl := lv_entry ([.ref h]) (n := 1) (Nat.le_of_ble_eq_true rfl)
  rw [lg_entry_eq]
  generalize (lg_sl ([.ref h]) ++ List.replicate (1 - (lg_sl ([.ref h])).length) Slot.unset).toArray = ls at hl ⊢
  have hl : lv_has ls 1 [(0, .ref h)] := hl
  refine fh_start (fun H hH => ?_)
  have hP : va_P (dC, dI) vwCl (wH cI cS h tr sl dw cw D C T n wc nw ds wd) H := by rw [hH]; exact hP
  have hS : va_S A s.heap H [] := by rw [hH]; exact va_S.rf
  refine lv_aload_n hx hb dX1_made_0 rfl (lv_at hl 0 rfl) ?_
  refine va_get (D := (dC, dI)) (ci := 1) (v := .int wc) (C := RX1) (T := TX1) (N := 6) hx hb hts (by decide +kernel) hown hK hP 0 rfl rfl 4 (by decide) (hts (.fieldLink RX1 28 "FragmentHouse" "wholeCount" "I") (by decide +kernel)) (fun _ h9 => h9) rfl dX1_made_1 ?_
  exact W.iret hx hb hr (fh_qi () rfl hP hK hD hS) hS.2.2 dX1_made_4
set_option maxHeartbeats 4000000 in
set_option maxRecDepth 100000 in
/-- length -/
theorem c_length (l : Launch) (dC : Nat → ClassId) (dI : Nat → Nat → Nat) (cI cS : ClassId) (h tr sl dw cw : Nat) (D C : Nat → Nat) (T : Nat → Int32) (n wc nw : Int32) (ds : Nat → Dg) (wd : Dg) (sz : Nat)  : Met l yX1_length wsX1_length ({ frames := 0, cells := 0, slots := 0, locals := 0 }) (va_Pc [.ref h] (PW (dC, dI) vwCl [(cI, .int), (cS, tDg)] (wH cI cS h tr sl dw cw D C T n wc nw ds wd) sz)) (va_Qi (S := Unit) (fun r _ => r = wd.1 6) (QW (dC, dI) vwCl (fun _ => [(cI, .int), (cS, tDg)]) (va_A (wH cI cS h tr sl dw cw D C T n wc nw ds wd) sz) (fun _ => wH cI cS h tr sl dw cw D C T n wc nw ds wd)) (va_A (wH cI cS h tr sl dw cw D C T n wc nw ds wd) sz)) 0 0 (va_A (wH cI cS h tr sl dw cw D C T n wc nw ds wd) sz) := by
  refine Met.ofW (cc := cX1_length) (maxL := 1) (ret := (some .int)) (by decide) rfl ?_
  intro p e s m args below meth c s₁ B hml hv
  obtain ⟨rfl, hsz, hP, hK, hD0⟩ := hv
  have hx := B.exec
  have hb := B.bytes
  have hr := B.returns
  have hts := atoms_spec (ws := wsX1_length) B.pre
  have hown : s.vm.findClass RX1 = some m.cls := findClass_of_methodNamed B.named
  have hlocks := B.notSynchronized
  subst hsz
  have hD := hD0.self (sz := s.heap.size)
  generalize hAe : va_A (wH cI cS h tr sl dw cw D C T n wc nw ds wd) s.heap.size = A at hD ⊢
  have hA : ∀ q : Nat, s.heap.size ≤ q → A q := fun q h => by rw [← hAe]; exact Or.inr h
  have hS : va_S A s.heap s.heap [] := va_S.rf
  have hl := lv_entry ([.ref h]) (n := 1) (Nat.le_of_ble_eq_true rfl)
  rw [lg_entry_eq]
  generalize (lg_sl ([.ref h]) ++ List.replicate (1 - (lg_sl ([.ref h])).length) Slot.unset).toArray = ls at hl ⊢
  have hl : lv_has ls 1 [(0, .ref h)] := hl
  refine fh_start (fun H hH => ?_)
  have hP : va_P (dC, dI) vwCl (wH cI cS h tr sl dw cw D C T n wc nw ds wd) H := by rw [hH]; exact hP
  have hS : va_S A s.heap H [] := by rw [hH]; exact va_S.rf
  refine lv_aload_n hx hb dX1_length_0 rfl (lv_at hl 0 rfl) ?_
  refine va_get (D := (dC, dI)) (ci := 1) (v := .ref dw) (C := RX1) (T := TX1) (N := 6) hx hb hts (by decide +kernel) hown hK hP 0 rfl rfl 2 (by decide) (hts (.fieldLink RX1 20 "FragmentHouse" "latestWhole" "LFragmentHouse$Datagram;") (by decide +kernel)) (fun _ h9 => h9) rfl dX1_length_1 ?_
  refine va_get (D := (dC, dI)) (ci := 0) (v := .int (wd.1 6)) (C := RX0) (T := TX0) (N := 9) hx hb hts (by decide +kernel) hown hK hP 3 rfl rfl 6 (by decide) (hts (.fieldLink RX1 58 "FragmentHouse$Datagram" "knownEnd" "I") (by decide +kernel)) (fun _ h9 => h9) rfl dX1_length_4 ?_
  exact W.iret hx hb hr (fh_qi () rfl hP hK hD hS) hS.2.2 dX1_length_7
set_option maxHeartbeats 4000000 in
set_option maxRecDepth 100000 in
/-- at -/
theorem c_at (l : Launch) (dC : Nat → ClassId) (dI : Nat → Nat → Nat) (cI cS : ClassId) (h tr sl dw cw : Nat) (D C : Nat → Nat) (T : Nat → Int32) (n wc nw : Int32) (ds : Nat → Dg) (wd : Dg) (p1 : Int32) (sz : Nat) (hw6 : wd.1 6 ≤ nI 4096) : Met l yX1_at wsX1_at ({ frames := 0, cells := 0, slots := 0, locals := 0 }) (va_Pc [.ref h, .int p1] (PW (dC, dI) vwCl [(cI, .int), (cS, tDg)] (wH cI cS h tr sl dw cw D C T n wc nw ds wd) sz)) (va_Qi (S := Unit) (fun r _ => (r = -1 ∧ (p1 < 0 ∨ ¬ p1 < wd.1 6)) ∨ (∃ k, k < 4096 ∧ p1 = nI k ∧ nI k < wd.1 6 ∧ r = wd.2 k)) (QW (dC, dI) vwCl (fun _ => [(cI, .int), (cS, tDg)]) (va_A (wH cI cS h tr sl dw cw D C T n wc nw ds wd) sz) (fun _ => wH cI cS h tr sl dw cw D C T n wc nw ds wd)) (va_A (wH cI cS h tr sl dw cw D C T n wc nw ds wd) sz)) 0 0 (va_A (wH cI cS h tr sl dw cw D C T n wc nw ds wd) sz) := by
  refine Met.ofW (cc := cX1_at) (maxL := 2) (ret := (some .int)) (by decide) rfl ?_
  intro p e s m args below meth c s₁ B hml hv
  obtain ⟨rfl, hsz, hP, hK, hD0⟩ := hv
  have hx := B.exec
  have hb := B.bytes
  have hr := B.returns
  have hts := atoms_spec (ws := wsX1_at) B.pre
  have hown : s.vm.findClass RX1 = some m.cls := findClass_of_methodNamed B.named
  have hlocks := B.notSynchronized
  subst hsz
  have hD := hD0.self (sz := s.heap.size)
  generalize hAe : va_A (wH cI cS h tr sl dw cw D C T n wc nw ds wd) s.heap.size = A at hD ⊢
  have hA : ∀ q : Nat, s.heap.size ≤ q → A q := fun q h => by rw [← hAe]; exact Or.inr h
  have hS : va_S A s.heap s.heap [] := va_S.rf
  have hl := lv_entry ([.ref h, .int p1]) (n := 2) (Nat.le_of_ble_eq_true rfl)
  rw [lg_entry_eq]
  generalize (lg_sl ([.ref h, .int p1]) ++ List.replicate (2 - (lg_sl ([.ref h, .int p1])).length) Slot.unset).toArray = ls at hl ⊢
  have hl : lv_has ls 2 [(0, .ref h), (1, .int p1)] := hl
  refine fh_start (fun H hH => ?_)
  have hP : va_P (dC, dI) vwCl (wH cI cS h tr sl dw cw D C T n wc nw ds wd) H := by rw [hH]; exact hP
  have hS : va_S A s.heap H [] := by rw [hH]; exact va_S.rf
  refine lv_iload_n hx hb dX1_at_0 rfl (lv_at hl 1 rfl) ?_
  refine lv_if_lt (tgt := 15) hx hb dX1_at_1 (by decide) (fun c1 => ?_) (fun c1 => ?_)
  · skip
    refine lv_iconst (v := (-1)) hx hb dX1_at_15 (by first | decide | rfl) ?_
    exact W.iret hx hb hr (fh_qi () (Or.inl ⟨rfl, Or.inl c1⟩) hP hK hD hS) hS.2.2 dX1_at_16
  · skip
    refine lv_iload_n hx hb dX1_at_4 rfl (lv_at hl 1 rfl) ?_
    refine lv_aload_n hx hb dX1_at_5 rfl (lv_at hl 0 rfl) ?_
    refine va_get (D := (dC, dI)) (ci := 1) (v := .ref dw) (C := RX1) (T := TX1) (N := 6) hx hb hts (by decide +kernel) hown hK hP 0 rfl rfl 2 (by decide) (hts (.fieldLink RX1 20 "FragmentHouse" "latestWhole" "LFragmentHouse$Datagram;") (by decide +kernel)) (fun _ h9 => h9) rfl dX1_at_6 ?_
    refine va_get (D := (dC, dI)) (ci := 0) (v := .int (wd.1 6)) (C := RX0) (T := TX0) (N := 9) hx hb hts (by decide +kernel) hown hK hP 3 rfl rfl 6 (by decide) (hts (.fieldLink RX1 58 "FragmentHouse$Datagram" "knownEnd" "I") (by decide +kernel)) (fun _ h9 => h9) rfl dX1_at_9 ?_
    refine lv_icmp_lt (tgt := 17) hx hb dX1_at_12 (by decide) (fun c12 => ?_) (fun c12 => ?_)
    · skip
      obtain ⟨k, hk0, rfl⟩ := nI_of c1
      have hk : k < 4096 := (nI_ltI hk0 (by decide)).mp (Int32.lt_of_lt_of_le c12 hw6)
      refine lv_aload_n hx hb dX1_at_17 rfl (lv_at hl 0 rfl) ?_
      refine va_get (D := (dC, dI)) (ci := 1) (v := .ref dw) (C := RX1) (T := TX1) (N := 6) hx hb hts (by decide +kernel) hown hK hP 0 rfl rfl 2 (by decide) (hts (.fieldLink RX1 20 "FragmentHouse" "latestWhole" "LFragmentHouse$Datagram;") (by decide +kernel)) (fun _ h9 => h9) rfl dX1_at_18 ?_
      refine va_get (D := (dC, dI)) (ci := 0) (v := .ref cw) (C := RX0) (T := TX0) (N := 9) hx hb hts (by decide +kernel) hown hK hP 3 rfl rfl 0 (by decide) (hts (.fieldLink RX1 61 "FragmentHouse$Datagram" "cells" "[I") (by decide +kernel)) (fun _ h9 => h9) rfl dX1_at_21 ?_
      refine lv_iload_n hx hb dX1_at_24 rfl (lv_at hl 1 rfl) ?_
      refine fh_iald (k := k) hx hb hK hP 4 0 rfl rfl hk (by first | decide | omega) dX1_at_25 ?_
      exact W.iret hx hb hr (fh_qi () (Or.inr ⟨k, hk, rfl, c12, rfl⟩) hP hK hD hS) hS.2.2 dX1_at_26
    · skip
      refine lv_iconst (v := (-1)) hx hb dX1_at_15 (by first | decide | rfl) ?_
      exact W.iret hx hb hr (fh_qi () (Or.inl ⟨rfl, Or.inr c12⟩) hP hK hD hS) hS.2.2 dX1_at_16
set_option maxHeartbeats 4000000 in
set_option maxRecDepth 100000 in
/-- pass -/
theorem c_pass (l : Launch) (dC : Nat → ClassId) (dI : Nat → Nat → Nat) (cI cS : ClassId) (h tr sl dw cw : Nat) (D C : Nat → Nat) (T : Nat → Int32) (n wc nw : Int32) (ds : Nat → Dg) (wd : Dg) (p1 : Int32) (sz : Nat)  : Met l yX1_pass wsX1_pass ({ frames := 0, cells := 0, slots := 0, locals := 0 }) (va_Pc [.ref h, .int p1] (PW (dC, dI) vwCl [(cI, .int), (cS, tDg)] (wH cI cS h tr sl dw cw D C T n wc nw ds wd) sz)) (va_Qi (S := (Nat → Dg) × Int32) (fun r u => (r = -1 ∧ (p1 < nw ∨ ¬ p1 ≤ 2000000000) ∧ u = (ds, nw)) ∨ (¬ p1 < nw ∧ p1 ≤ 2000000000 ∧ r = nI (psC p1 ds 4) ∧ u = (psD p1 ds 4, p1))) (QW (dC, dI) vwCl (fun _ => [(cI, .int), (cS, tDg)]) (va_A (wH cI cS h tr sl dw cw D C T n wc nw ds wd) sz) (fun u => wH cI cS h tr sl dw cw D C T n wc u.2 u.1 wd)) (va_A (wH cI cS h tr sl dw cw D C T n wc nw ds wd) sz)) 0 0 (va_A (wH cI cS h tr sl dw cw D C T n wc nw ds wd) sz) := by
  refine Met.ofW (cc := cX1_pass) (maxL := 4) (ret := (some .int)) (by decide) rfl ?_
  intro p e s m args below meth c s₁ B hml hv
  obtain ⟨rfl, hsz, hP, hK, hD0⟩ := hv
  have hx := B.exec
  have hb := B.bytes
  have hr := B.returns
  have hts := atoms_spec (ws := wsX1_pass) B.pre
  have hown : s.vm.findClass RX1 = some m.cls := findClass_of_methodNamed B.named
  have hlocks := B.notSynchronized
  subst hsz
  have hD := hD0.self (sz := s.heap.size)
  generalize hAe : va_A (wH cI cS h tr sl dw cw D C T n wc nw ds wd) s.heap.size = A at hD ⊢
  have hA : ∀ q : Nat, s.heap.size ≤ q → A q := fun q h => by rw [← hAe]; exact Or.inr h
  have hS : va_S A s.heap s.heap [] := va_S.rf
  have hl := lv_entry ([.ref h, .int p1]) (n := 4) (Nat.le_of_ble_eq_true rfl)
  rw [lg_entry_eq]
  generalize (lg_sl ([.ref h, .int p1]) ++ List.replicate (4 - (lg_sl ([.ref h, .int p1])).length) Slot.unset).toArray = ls at hl ⊢
  have hl : lv_has ls 4 [(0, .ref h), (1, .int p1)] := hl
  refine fh_start (fun H hH => ?_)
  have hP : va_P (dC, dI) vwCl (wH cI cS h tr sl dw cw D C T n wc nw ds wd) H := by rw [hH]; exact hP
  have hS : va_S A s.heap H [] := by rw [hH]; exact va_S.rf
  refine lv_iload_n hx hb dX1_pass_0 rfl (lv_at hl 1 rfl) ?_
  refine lv_aload_n hx hb dX1_pass_1 rfl (lv_at hl 0 rfl) ?_
  refine va_get (D := (dC, dI)) (ci := 1) (v := .int nw) (C := RX1) (T := TX1) (N := 6) hx hb hts (by decide +kernel) hown hK hP 0 rfl rfl 5 (by decide) (hts (.fieldLink RX1 31 "FragmentHouse" "now" "I") (by decide +kernel)) (fun _ h9 => h9) rfl dX1_pass_2 ?_
  refine lv_icmp_lt (tgt := 14) hx hb dX1_pass_5 (by decide) (fun c5 => ?_) (fun c5 => ?_)
  · skip
    refine lv_iconst (v := (-1)) hx hb dX1_pass_14 (by first | decide | rfl) ?_
    exact W.iret hx hb hr (fh_qi (ds, nw) (Or.inl ⟨rfl, Or.inl c5, rfl⟩) hP hK hD hS) hS.2.2 dX1_pass_15
  · skip
    refine lv_iload_n hx hb dX1_pass_8 rfl (lv_at hl 1 rfl) ?_
    refine lv_ldc (v := 2000000000) hx hb hown (hts (.constant RX1 50 (2000000000)) (by decide +kernel)) dX1_pass_9 ?_
    refine lv_icmp_le (tgt := 16) hx hb dX1_pass_11 (by decide) (fun c11 => ?_) (fun c11 => ?_)
    · skip
      refine lv_aload_n hx hb dX1_pass_16 rfl (lv_at hl 0 rfl) ?_
      refine lv_iload_n hx hb dX1_pass_17 rfl (lv_at hl 1 rfl) ?_
      refine va_put (D := (dC, dI)) (ci := 1) (v := .int p1) (ty := .int) (C := RX1) (T := TX1) (N := 6) hx hb hts (by decide +kernel) tyX1 tyX1_ok nmX1 hown hK hP hD hS 0 rfl rfl 5 (by decide) (hts (.fieldLink RX1 31 "FragmentHouse" "now" "I") (by decide +kernel)) (fun _ h9 => h9) rfl (by decide +kernel) rfl rfl (Nat.le_of_ble_eq_true rfl) dX1_pass_18 (fun H locs hP hD hS => ?_)
      have hP : va_P (dC, dI) vwCl (wH cI cS h tr sl dw cw D C T n wc p1 ds wd) H := hP
      have hD : va_D A (wH cI cS h tr sl dw cw D C T n wc p1 ds wd) := hD
      refine lv_iconst (v := nI (psC p1 ds 0)) hx hb dX1_pass_21 (by first | decide | rfl) ?_
      refine lv_istore_n (lv' := [(2, .int (nI (psC p1 ds 0))), (0, .ref h), (1, .int p1)]) hx hb dX1_pass_22 rfl hl (by decide) rfl (fun ls hl => ?_)
      refine lv_iconst (v := nI 0) hx hb dX1_pass_23 (by first | decide | rfl) ?_
      refine lv_istore_n (lv' := [(3, .int (nI 0)), (2, .int (nI (psC p1 ds 0))), (0, .ref h), (1, .int p1)]) hx hb dX1_pass_24 rfl hl (by decide) rfl (fun ls hl => ?_)
      have hP : va_P (dC, dI) vwCl (wH cI cS h tr sl dw cw D C T n wc p1 (psD p1 ds 0) wd) H := by rw [psD_0]; exact hP
      have hD : va_D A (wH cI cS h tr sl dw cw D C T n wc p1 (psD p1 ds 0) wd) := by rw [psD_0]; exact hD
      refine fh_loop (σ := Nat) (fun q9 H locs ls => (q9 ≤ 4) ∧ va_P (dC, dI) vwCl (wH cI cS h tr sl dw cw D C T n wc p1 (psD p1 ds q9) wd) H ∧ va_D A (wH cI cS h tr sl dw cw D C T n wc p1 (psD p1 ds q9) wd) ∧ va_S A s.heap H locs ∧ lv_has ls 4 [(0, .ref h), (1, .int p1), (2, .int (nI (psC p1 ds q9))), (3, .int (nI q9))]) (fun q9 => 4 - q9) ?_ (0) ⟨Nat.zero_le _, hP, hD, hS, lv_sub hl [2, 3, 1, 0] rfl⟩
      intro q9 H locs ls hI ih
      obtain ⟨k, rfl⟩ : ∃ z, z = q9 := ⟨_, rfl⟩
      obtain ⟨hk, hP, hD, hS, hl⟩ : (k ≤ 4) ∧ va_P (dC, dI) vwCl (wH cI cS h tr sl dw cw D C T n wc p1 (psD p1 ds k) wd) H ∧ va_D A (wH cI cS h tr sl dw cw D C T n wc p1 (psD p1 ds k) wd) ∧ va_S A s.heap H locs ∧ lv_has ls 4 [(0, .ref h), (1, .int p1), (2, .int (nI (psC p1 ds k))), (3, .int (nI k))] := hI
      refine lv_iload_n hx hb dX1_pass_25 rfl (lv_at hl 3 rfl) ?_
      refine lv_iconst (v := nI 4) hx hb dX1_pass_26 (by first | decide | rfl) ?_
      refine lv_icmp_ge (tgt := 81) hx hb dX1_pass_27 (by decide) (fun c27 => ?_) (fun c27 => ?_)
      · skip
        refine lv_iload_n hx hb dX1_pass_81 rfl (lv_at hl 2 rfl) ?_
        obtain rfl : k = 4 := Nat.le_antisymm hk ((nI_leI (by omega) (by omega)).mp c27)
        exact W.iret hx hb hr (fh_qi (psD p1 ds 4, p1) (Or.inr ⟨c5, c11, rfl, rfl⟩) hP hK hD hS) hS.2.2 dX1_pass_82
      · skip
        have hlt : k < 4 := Nat.lt_of_not_le (fun h => c27 (nI_le h (by omega)))
        refine lv_aload_n hx hb dX1_pass_30 rfl (lv_at hl 0 rfl) ?_
        refine va_get (D := (dC, dI)) (ci := 1) (v := .ref sl) (C := RX1) (T := TX1) (N := 6) hx hb hts (by decide +kernel) hown hK hP 0 rfl rfl 1 (by decide) (hts (.fieldLink RX1 15 "FragmentHouse" "slots" "[LFragmentHouse$Datagram;") (by decide +kernel)) (fun _ h9 => h9) rfl dX1_pass_31 ?_
        refine lv_iload_n hx hb dX1_pass_34 rfl (lv_at hl 3 rfl) ?_
        refine fh_aald (k := k) hx hb hK hP 2 1 rfl rfl hlt (by decide) rfl dX1_pass_35 ?_
        refine va_get (D := (dC, dI)) (ci := 0) (v := .int (((psD p1 ds k) k).1 1)) (C := RX0) (T := TX0) (N := 9) hx hb hts (by decide +kernel) hown hK hP (5 + 2 * k) (wH_o hlt) rfl 1 (by decide) (hts (.fieldLink RX1 51 "FragmentHouse$Datagram" "inMaking" "Z") (by decide +kernel)) (fun _ h9 => h9) rfl dX1_pass_36 ?_
        refine fh_top (y := (ds k).1 1) (by rw [psD_at]) ?_
        refine lv_if_eq (tgt := 75) hx hb dX1_pass_39 (by decide) (fun c39 => ?_) (fun c39 => ?_)
        · skip
          refine lv_iinc (v := (nI (k + 1))) (lv' := [(3, .int (nI (k + 1))), (0, .ref h), (1, .int p1), (2, .int (nI (psC p1 ds k)))]) hx hb dX1_pass_75 hl (k := 3) rfl (nI_1 k) (by decide) rfl (fun ls hl => ?_)
          refine lv_goto (tgt := 25) hx hb dX1_pass_78 (by decide) ?_
          have hP : va_P (dC, dI) vwCl (wH cI cS h tr sl dw cw D C T n wc p1 (psD p1 ds (k + 1)) wd) H := by rw [← psD_s2 (fun z => z.1 c39)]; exact hP
          have hD : va_D A (wH cI cS h tr sl dw cw D C T n wc p1 (psD p1 ds (k + 1)) wd) := by rw [← psD_s2 (fun z => z.1 c39)]; exact hD
          rw [← psC_s2 (fun z => z.1 c39)] at hl
          exact ih (k + 1) _ _ _ ⟨hlt, hP, hD, hS, lv_sub hl [1, 2, 3, 0] rfl⟩ (by show 4 - (k + 1) < 4 - k; omega)
        · skip
          refine lv_aload_n hx hb dX1_pass_42 rfl (lv_at hl 0 rfl) ?_
          refine va_get (D := (dC, dI)) (ci := 1) (v := .ref sl) (C := RX1) (T := TX1) (N := 6) hx hb hts (by decide +kernel) hown hK hP 0 rfl rfl 1 (by decide) (hts (.fieldLink RX1 15 "FragmentHouse" "slots" "[LFragmentHouse$Datagram;") (by decide +kernel)) (fun _ h9 => h9) rfl dX1_pass_43 ?_
          refine lv_iload_n hx hb dX1_pass_46 rfl (lv_at hl 3 rfl) ?_
          refine fh_aald (k := k) hx hb hK hP 2 1 rfl rfl hlt (by decide) rfl dX1_pass_47 ?_
          refine va_get (D := (dC, dI)) (ci := 0) (v := .int (((psD p1 ds k) k).1 5)) (C := RX0) (T := TX0) (N := 9) hx hb hts (by decide +kernel) hown hK hP (5 + 2 * k) (wH_o hlt) rfl 5 (by decide) (hts (.fieldLink RX1 55 "FragmentHouse$Datagram" "firstTime" "I") (by decide +kernel)) (fun _ h9 => h9) rfl dX1_pass_48 ?_
          refine fh_top (y := (ds k).1 5) (by rw [psD_at]) ?_
          refine lv_sipush (v := 15000) hx hb dX1_pass_51 (by first | decide | rfl) ?_
          refine lv_iadd hx hb dX1_pass_54 ?_
          refine lv_aload_n hx hb dX1_pass_55 rfl (lv_at hl 0 rfl) ?_
          refine va_get (D := (dC, dI)) (ci := 1) (v := .int p1) (C := RX1) (T := TX1) (N := 6) hx hb hts (by decide +kernel) hown hK hP 0 rfl rfl 5 (by decide) (hts (.fieldLink RX1 31 "FragmentHouse" "now" "I") (by decide +kernel)) (fun _ h9 => h9) rfl dX1_pass_56 ?_
          refine lv_icmp_gt (tgt := 75) hx hb dX1_pass_59 (by decide) (fun c59 => ?_) (fun c59 => ?_)
          · skip
            refine lv_iinc (v := (nI (k + 1))) (lv' := [(3, .int (nI (k + 1))), (0, .ref h), (1, .int p1), (2, .int (nI (psC p1 ds k)))]) hx hb dX1_pass_75 hl (k := 3) rfl (nI_1 k) (by decide) rfl (fun ls hl => ?_)
            refine lv_goto (tgt := 25) hx hb dX1_pass_78 (by decide) ?_
            have hP : va_P (dC, dI) vwCl (wH cI cS h tr sl dw cw D C T n wc p1 (psD p1 ds (k + 1)) wd) H := by rw [← psD_s2 (fun z => absurd z.2 (Int32.not_le.mpr c59))]; exact hP
            have hD : va_D A (wH cI cS h tr sl dw cw D C T n wc p1 (psD p1 ds (k + 1)) wd) := by rw [← psD_s2 (fun z => absurd z.2 (Int32.not_le.mpr c59))]; exact hD
            rw [← psC_s2 (fun z => absurd z.2 (Int32.not_le.mpr c59))] at hl
            exact ih (k + 1) _ _ _ ⟨hlt, hP, hD, hS, lv_sub hl [1, 2, 3, 0] rfl⟩ (by show 4 - (k + 1) < 4 - k; omega)
          · skip
            refine lv_aload_n hx hb dX1_pass_62 rfl (lv_at hl 0 rfl) ?_
            refine va_get (D := (dC, dI)) (ci := 1) (v := .ref sl) (C := RX1) (T := TX1) (N := 6) hx hb hts (by decide +kernel) hown hK hP 0 rfl rfl 1 (by decide) (hts (.fieldLink RX1 15 "FragmentHouse" "slots" "[LFragmentHouse$Datagram;") (by decide +kernel)) (fun _ h9 => h9) rfl dX1_pass_63 ?_
            refine lv_iload_n hx hb dX1_pass_66 rfl (lv_at hl 3 rfl) ?_
            refine fh_aald (k := k) hx hb hK hP 2 1 rfl rfl hlt (by decide) rfl dX1_pass_67 ?_
            refine lv_iconst (v := 0) hx hb dX1_pass_68 (by first | decide | rfl) ?_
            refine va_put (D := (dC, dI)) (ci := 0) (v := .int 0) (ty := .boolean) (C := RX0) (T := TX0) (N := 9) hx hb hts (by decide +kernel) tyX0 tyX0_ok nmX0 hown hK hP hD hS (5 + 2 * k) (wH_o hlt) rfl 1 (by decide) (hts (.fieldLink RX1 51 "FragmentHouse$Datagram" "inMaking" "Z") (by decide +kernel)) (fun _ h9 => h9) rfl (by decide +kernel) rfl rfl (Nat.le_of_ble_eq_true rfl) dX1_pass_69 (fun H locs hP hD hS => ?_)
            have hP : va_P (dC, dI) vwCl (wH cI cS h tr sl dw cw D C T n wc p1 (va_up (psD p1 ds k) k (upd ((psD p1 ds k) k).1 1 0, ((psD p1 ds k) k).2)) wd) H := by rw [← wH_so hlt (upd ((psD p1 ds k) k).1 1 0)]; exact hP
            have hD : va_D A (wH cI cS h tr sl dw cw D C T n wc p1 (va_up (psD p1 ds k) k (upd ((psD p1 ds k) k).1 1 0, ((psD p1 ds k) k).2)) wd) := by rw [← wH_so hlt (upd ((psD p1 ds k) k).1 1 0)]; exact hD
            have hP : va_P (dC, dI) vwCl (wH cI cS h tr sl dw cw D C T n wc p1 (va_up (psD p1 ds k) k (upd ((psD p1 ds k) k).1 1 0, ((psD p1 ds k) k).2)) wd) H := hP
            have hD : va_D A (wH cI cS h tr sl dw cw D C T n wc p1 (va_up (psD p1 ds k) k (upd ((psD p1 ds k) k).1 1 0, ((psD p1 ds k) k).2)) wd) := hD
            refine lv_iinc (v := (nI ((psC p1 ds k) + 1))) (lv' := [(2, .int (nI ((psC p1 ds k) + 1))), (0, .ref h), (1, .int p1), (3, .int (nI k))]) hx hb dX1_pass_72 hl (k := 2) rfl (nI_1 ((psC p1 ds k))) (by decide) rfl (fun ls hl => ?_)
            refine lv_iinc (v := (nI (k + 1))) (lv' := [(3, .int (nI (k + 1))), (2, .int (nI ((psC p1 ds k) + 1))), (0, .ref h), (1, .int p1)]) hx hb dX1_pass_75 hl (k := 3) rfl (nI_1 k) (by decide) rfl (fun ls hl => ?_)
            refine lv_goto (tgt := 25) hx hb dX1_pass_78 (by decide) ?_
            have hP : va_P (dC, dI) vwCl (wH cI cS h tr sl dw cw D C T n wc p1 (psD p1 ds (k + 1)) wd) H := by rw [← psD_s1 c39 (Int32.not_lt.mp c59)]; exact hP
            have hD : va_D A (wH cI cS h tr sl dw cw D C T n wc p1 (psD p1 ds (k + 1)) wd) := by rw [← psD_s1 c39 (Int32.not_lt.mp c59)]; exact hD
            rw [← psC_s1 c39 (Int32.not_lt.mp c59)] at hl
            exact ih (k + 1) _ _ _ ⟨hlt, hP, hD, hS, lv_sub hl [2, 3, 1, 0] rfl⟩ (by show 4 - (k + 1) < 4 - k; omega)
    · skip
      refine lv_iconst (v := (-1)) hx hb dX1_pass_14 (by first | decide | rfl) ?_
      exact W.iret hx hb hr (fh_qi (ds, nw) (Or.inl ⟨rfl, Or.inr c11, rfl⟩) hP hK hD hS) hS.2.2 dX1_pass_15
