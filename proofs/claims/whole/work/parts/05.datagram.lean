/-! the datagram's methods -/
def Ctr (f : Nat → Int32) (r l : Int32) : Prop := (f 6 ≠ -1 ∧ (f 6 < r ∨ (l ≠ 0 ∧ r ≠ f 6))) ∨ (l ≠ 0 ∧ r < f 7)
def nR (f : Nat → Int32) (r l : Int32) : Nat → Int32 := if l = 0 then upd f 7 (if f 7 < r then r else f 7) else upd (upd f 7 (if f 7 < r then r else f 7)) 6 r
def bg (f : Nat → Int32) (s i p t : Int32) : Nat → Int32 := upd (upd (upd (upd (upd (upd (upd (upd f 1 1) 2 s) 3 i) 4 p) 5 t) 6 (-1)) 7 0) 8 0
/-- the bytes T of k places from st on, put where nothing is -/
def pt (x : Nat → Int32) (st k : Nat) (T : Nat → Int32) : Nat → Int32 := fun j => if st ≤ j ∧ j < st + k ∧ x j = -1 then T (j - st) else x j
/-- how many of the k places from st on are empty -/
def cn (x : Nat → Int32) (st : Nat) : Nat → Nat
  | 0 => 0
  | k + 1 => cn x st k + (if x (st + k) = -1 then 1 else 0)
theorem pt_0 (x : Nat → Int32) (st : Nat) (T : Nat → Int32) : pt x st 0 T = x := by
  funext j
  unfold pt
  rw [if_neg (by omega)]
theorem pt_at {x : Nat → Int32} {st i : Nat} {T : Nat → Int32} : pt x st i T (st + i) = x (st + i) := by
  unfold pt
  rw [if_neg (by omega)]
theorem pt_s1 {x : Nat → Int32} {st i : Nat} {T : Nat → Int32} (h : pt x st i T (st + i) = -1) : upd (pt x st i T) (st + i) (T i) = pt x st (i + 1) T := by
  rw [pt_at] at h
  funext j
  unfold upd pt
  by_cases hj : j = st + i
  · subst hj
    rw [if_pos rfl, if_pos ⟨by omega, by omega, h⟩, show st + i - st = i by omega]
  · rw [if_neg hj]
    by_cases hc : st ≤ j ∧ j < st + i ∧ x j = -1
    · rw [if_pos hc, if_pos ⟨hc.1, by omega, hc.2.2⟩]
    · rw [if_neg hc, if_neg (fun q => hc ⟨q.1, by omega, q.2.2⟩)]
theorem pt_s2 {x : Nat → Int32} {st i : Nat} {T : Nat → Int32} (h : ¬ pt x st i T (st + i) = -1) : pt x st i T = pt x st (i + 1) T := by
  rw [pt_at] at h
  funext j
  unfold pt
  by_cases hc : st ≤ j ∧ j < st + i ∧ x j = -1
  · rw [if_pos hc, if_pos ⟨hc.1, by omega, hc.2.2⟩]
  · rw [if_neg hc, if_neg (fun q => hc ⟨q.1, by
      have h1 : j ≠ st + i := fun z => h (z ▸ q.2.2)
      omega, q.2.2⟩)]
theorem cn_s1 {x : Nat → Int32} {st i : Nat} {T : Nat → Int32} (h : pt x st i T (st + i) = -1) : cn x st (i + 1) = cn x st i + 1 := by
  rw [pt_at] at h
  simp [cn, h]
theorem cn_s2 {x : Nat → Int32} {st i : Nat} {T : Nat → Int32} (h : ¬ pt x st i T (st + i) = -1) : cn x st (i + 1) = cn x st i := by
  rw [pt_at] at h
  simp [cn, h]
theorem up_0 (f : Nat → Int32) (k : Nat) : upd f k (f k + nI 0) = f := by
  funext j
  unfold upd
  by_cases hj : j = k
  · subst hj
    rw [if_pos rfl, nI_0, Int32.add_zero]
  · rw [if_neg hj]
theorem up_s (f : Nat → Int32) (k a : Nat) : upd (upd f k (f k + nI a)) k ((upd f k (f k + nI a)) k + 1) = upd f k (f k + nI (a + 1)) := by
  funext j
  unfold upd
  by_cases hj : j = k
  · subst hj
    rw [if_pos rfl, if_pos rfl, if_pos rfl, Int32.add_assoc, nI_1]
  · rw [if_neg hj, if_neg hj, if_neg hj]
set_option maxHeartbeats 4000000 in
set_option maxRecDepth 100000 in
/-- Arrays.fill: every place holds v -/
theorem c_fill (l : Launch) (dC : Nat → ClassId) (dI : Nat → Nat → Nat) (cI : ClassId) (a n : Nat) (x : Nat → Int32) (v : Int32) (sz : Nat) (hn : n < 2 ^ 31) : Met l yJ7_fill_53178 wsJ7_fill_53178 ({ frames := 0, cells := 0, slots := 0, locals := 0 }) (va_Pc [.ref a, .int v] (PW (dC, dI) vwCl [(cI, .int)] ([(a, eI cI n x)]) sz)) (va_Qv (S := Nat → Int32) (fun u => ∀ j, j < n → u j = v) (QW (dC, dI) vwCl (fun _ => [(cI, .int)]) (va_A ([(a, eI cI n x)]) sz) (fun u => [(a, eI cI n u)])) (va_A ([(a, eI cI n x)]) sz)) 0 0 (va_A ([(a, eI cI n x)]) sz) := by
  refine Met.ofW (cc := cJ7_fill_53178) (maxL := 4) (ret := none) (by decide) rfl ?_
  intro p e s m args below meth c s₁ B hml hv
  obtain ⟨rfl, hsz, hP, hK, hD0⟩ := hv
  have hx := B.exec
  have hb := B.bytes
  have hr := B.returns
  have hts := atoms_spec (ws := wsJ7_fill_53178) B.pre
  have hown : s.vm.findClass RJ7 = some m.cls := findClass_of_methodNamed B.named
  have hlocks := B.notSynchronized
  subst hsz
  have hD := hD0.self (sz := s.heap.size)
  generalize hAe : va_A ([(a, eI cI n x)]) s.heap.size = A at hD ⊢
  have hA : ∀ q : Nat, s.heap.size ≤ q → A q := fun q h => by rw [← hAe]; exact Or.inr h
  have hS : va_S A s.heap s.heap [] := va_S.rf
  have hl := lv_entry ([.ref a, .int v]) (n := 4) (Nat.le_of_ble_eq_true rfl)
  rw [lg_entry_eq]
  generalize (lg_sl ([.ref a, .int v]) ++ List.replicate (4 - (lg_sl ([.ref a, .int v])).length) Slot.unset).toArray = ls at hl ⊢
  have hl : lv_has ls 4 [(0, .ref a), (1, .int v)] := hl
  refine fh_start (fun H hH => ?_)
  have hP : va_P (dC, dI) vwCl ([(a, eI cI n x)]) H := by rw [hH]; exact hP
  have hS : va_S A s.heap H [] := by rw [hH]; exact va_S.rf
  refine lv_iconst (v := nI 0) hx hb dJ7_fill_53178_0 (by decide) ?_
  refine lv_istore_n (lv' := [(2, .int (nI 0)), (0, .ref a), (1, .int v)]) hx hb dJ7_fill_53178_1 rfl hl (by decide) rfl (fun ls hl => ?_)
  refine lv_aload_n hx hb dJ7_fill_53178_2 rfl (lv_at hl 1 rfl) ?_
  refine va_alen (v := nI n) hx hb hK hP 0 0 rfl rfl rfl dJ7_fill_53178_3 ?_
  refine lv_istore_n (lv' := [(3, .int (nI n)), (2, .int (nI 0)), (0, .ref a), (1, .int v)]) hx hb dJ7_fill_53178_4 rfl hl (by decide) rfl (fun ls hl => ?_)
  refine fh_loop (σ := Nat × (Nat → Int32)) (fun q9 H locs ls => (q9.1 ≤ n) ∧ (∀ j, j < q9.1 → q9.2 j = v) ∧ va_P (dC, dI) vwCl ([(a, eI cI n q9.2)]) H ∧ va_D A ([(a, eI cI n q9.2)]) ∧ va_S A s.heap H locs ∧ lv_has ls 4 [(0, .ref a), (1, .int v), (2, .int (nI q9.1)), (3, .int (nI n))]) (fun q9 => n - q9.1) ?_ (0, x) ⟨Nat.zero_le _, fun j h => absurd h (Nat.not_lt_zero _), hP, hD, hS, lv_sub hl [2, 3, 1, 0] rfl⟩
  intro q9 H locs ls hI ih
  obtain ⟨k, x⟩ := q9
  obtain ⟨hk, hv, hP, hD, hS, hl⟩ : (k ≤ n) ∧ (∀ j, j < k → x j = v) ∧ va_P (dC, dI) vwCl ([(a, eI cI n x)]) H ∧ va_D A ([(a, eI cI n x)]) ∧ va_S A s.heap H locs ∧ lv_has ls 4 [(0, .ref a), (1, .int v), (2, .int (nI k)), (3, .int (nI n))] := hI
  refine lv_iload_n hx hb dJ7_fill_53178_5 rfl (lv_at hl 2 rfl) ?_
  refine lv_iload_n hx hb dJ7_fill_53178_6 rfl (lv_at hl 3 rfl) ?_
  refine lv_icmp_ge (tgt := 20) hx hb dJ7_fill_53178_7 (by decide) (fun c7 => ?_) (fun c7 => ?_)
  · skip
    have hge : n ≤ k := (nI_leI hn (by omega)).mp c7
    exact W.vret hx hb hr (fh_qv x (fun j h => hv j (by omega)) hP hK hD hS) hS.2.2 dJ7_fill_53178_20
  · skip
    have hlt : k < n := Nat.lt_of_not_le (fun h => c7 (nI_le h (by omega)))
    refine lv_aload_n hx hb dJ7_fill_53178_10 rfl (lv_at hl 0 rfl) ?_
    refine lv_iload_n hx hb dJ7_fill_53178_11 rfl (lv_at hl 2 rfl) ?_
    refine lv_iload_n hx hb dJ7_fill_53178_12 rfl (lv_at hl 1 rfl) ?_
    refine fh_iast (k := k) hx hb hK hP hD hS 0 0 rfl rfl hlt (by first | decide | omega) dJ7_fill_53178_13 (fun H locs hP hD hS => ?_)
    have hP : va_P (dC, dI) vwCl ([(a, eI cI n (upd x k v))]) H := hP
    have hD : va_D A ([(a, eI cI n (upd x k v))]) := hD
    refine lv_iinc (v := (nI (k + 1))) (lv' := [(2, .int (nI (k + 1))), (0, .ref a), (1, .int v), (3, .int (nI n))]) hx hb dJ7_fill_53178_14 hl (k := 2) rfl (nI_1 k) (by decide) rfl (fun ls hl => ?_)
    refine lv_goto (tgt := 5) hx hb dJ7_fill_53178_17 (by decide) ?_
    exact ih (k + 1, upd x k v) _ _ _ ⟨hlt, lt_s (fun j h => (pk_un (Nat.ne_of_lt h)).trans (hv j h)) pk_us, hP, hD, hS, lv_sub hl [1, 2, 0, 3] rfl⟩ (by show n - (k + 1) < n - k; omega)
set_option maxHeartbeats 4000000 in
set_option maxRecDepth 100000 in
/-- isOf: is it of that sender, identification and protocol -/
theorem c_isOf (l : Launch) (dC : Nat → ClassId) (dI : Nat → Nat → Nat) (cI : ClassId) (h c0 : Nat) (f x : Nat → Int32) (p1 p2 p3 : Int32) (sz : Nat)  : Met l yX0_isOf wsX0_isOf ({ frames := 0, cells := 0, slots := 0, locals := 0 }) (va_Pc [.ref h, .int p1, .int p2, .int p3] (PW (dC, dI) vwCl [(cI, .int)] (wD cI h c0 f x) sz)) (va_Qi (S := Unit) (fun r _ => (r = 1 ∧ f 2 = p1 ∧ f 3 = p2 ∧ f 4 = p3) ∨ (r = 0 ∧ ¬ (f 2 = p1 ∧ f 3 = p2 ∧ f 4 = p3))) (QW (dC, dI) vwCl (fun _ => [(cI, .int)]) (va_A (wD cI h c0 f x) sz) (fun _ => wD cI h c0 f x)) (va_A (wD cI h c0 f x) sz)) 0 0 (va_A (wD cI h c0 f x) sz) := by
  refine Met.ofW (cc := cX0_isOf) (maxL := 4) (ret := (some .boolean)) (by decide) rfl ?_
  intro p e s m args below meth c s₁ B hml hv
  obtain ⟨rfl, hsz, hP, hK, hD0⟩ := hv
  have hx := B.exec
  have hb := B.bytes
  have hr := B.returns
  have hts := atoms_spec (ws := wsX0_isOf) B.pre
  have hown : s.vm.findClass RX0 = some m.cls := findClass_of_methodNamed B.named
  have hlocks := B.notSynchronized
  subst hsz
  have hD := hD0.self (sz := s.heap.size)
  generalize hAe : va_A (wD cI h c0 f x) s.heap.size = A at hD ⊢
  have hA : ∀ q : Nat, s.heap.size ≤ q → A q := fun q h => by rw [← hAe]; exact Or.inr h
  have hS : va_S A s.heap s.heap [] := va_S.rf
  have hl := lv_entry ([.ref h, .int p1, .int p2, .int p3]) (n := 4) (Nat.le_of_ble_eq_true rfl)
  rw [lg_entry_eq]
  generalize (lg_sl ([.ref h, .int p1, .int p2, .int p3]) ++ List.replicate (4 - (lg_sl ([.ref h, .int p1, .int p2, .int p3])).length) Slot.unset).toArray = ls at hl ⊢
  have hl : lv_has ls 4 [(0, .ref h), (1, .int p1), (2, .int p2), (3, .int p3)] := hl
  refine fh_start (fun H hH => ?_)
  have hP : va_P (dC, dI) vwCl (wD cI h c0 f x) H := by rw [hH]; exact hP
  have hS : va_S A s.heap H [] := by rw [hH]; exact va_S.rf
  refine lv_aload_n hx hb dX0_isOf_0 rfl (lv_at hl 0 rfl) ?_
  refine va_get (D := (dC, dI)) (ci := 0) (v := .int (f 2)) (C := RX0) (T := TX0) (N := 9) hx hb hts (by decide +kernel) hown hK hP 0 rfl rfl 2 (by decide) (hts (.fieldLink RX0 29 "FragmentHouse$Datagram" "sender" "I") (by decide +kernel)) (fun _ h9 => h9) rfl dX0_isOf_1 ?_
  refine lv_iload_n hx hb dX0_isOf_4 rfl (lv_at hl 1 rfl) ?_
  refine lv_icmp_ne (tgt := 28) hx hb dX0_isOf_5 (by decide) (fun c5 => ?_) (fun c5 => ?_)
  · skip
    refine lv_iconst (v := 0) hx hb dX0_isOf_28 (by decide) ?_
    exact W.zret hx hb hr rfl (fh_qi () (Or.inr ⟨rfl, fun q => c5 q.1⟩) hP hK hD hS) hS.2.2 dX0_isOf_29
  · skip
    refine lv_aload_n hx hb dX0_isOf_8 rfl (lv_at hl 0 rfl) ?_
    refine va_get (D := (dC, dI)) (ci := 0) (v := .int (f 3)) (C := RX0) (T := TX0) (N := 9) hx hb hts (by decide +kernel) hown hK hP 0 rfl rfl 3 (by decide) (hts (.fieldLink RX0 32 "FragmentHouse$Datagram" "identification" "I") (by decide +kernel)) (fun _ h9 => h9) rfl dX0_isOf_9 ?_
    refine lv_iload_n hx hb dX0_isOf_12 rfl (lv_at hl 2 rfl) ?_
    refine lv_icmp_ne (tgt := 28) hx hb dX0_isOf_13 (by decide) (fun c13 => ?_) (fun c13 => ?_)
    · skip
      refine lv_iconst (v := 0) hx hb dX0_isOf_28 (by decide) ?_
      exact W.zret hx hb hr rfl (fh_qi () (Or.inr ⟨rfl, fun q => c13 q.2.1⟩) hP hK hD hS) hS.2.2 dX0_isOf_29
    · skip
      refine lv_aload_n hx hb dX0_isOf_16 rfl (lv_at hl 0 rfl) ?_
      refine va_get (D := (dC, dI)) (ci := 0) (v := .int (f 4)) (C := RX0) (T := TX0) (N := 9) hx hb hts (by decide +kernel) hown hK hP 0 rfl rfl 4 (by decide) (hts (.fieldLink RX0 35 "FragmentHouse$Datagram" "protocol" "I") (by decide +kernel)) (fun _ h9 => h9) rfl dX0_isOf_17 ?_
      refine lv_iload_n hx hb dX0_isOf_20 rfl (lv_at hl 3 rfl) ?_
      refine lv_icmp_ne (tgt := 28) hx hb dX0_isOf_21 (by decide) (fun c21 => ?_) (fun c21 => ?_)
      · skip
        refine lv_iconst (v := 0) hx hb dX0_isOf_28 (by decide) ?_
        exact W.zret hx hb hr rfl (fh_qi () (Or.inr ⟨rfl, fun q => c21 q.2.2⟩) hP hK hD hS) hS.2.2 dX0_isOf_29
      · skip
        refine lv_iconst (v := 1) hx hb dX0_isOf_24 (by decide) ?_
        refine lv_goto (tgt := 29) hx hb dX0_isOf_25 (by decide) ?_
        exact W.zret hx hb hr rfl (fh_qi () (Or.inl ⟨rfl, c5, c13, c21⟩) hP hK hD hS) hS.2.2 dX0_isOf_29
set_option maxHeartbeats 4000000 in
set_option maxRecDepth 100000 in
/-- isContradictedBy -/
theorem c_isCon (l : Launch) (dC : Nat → ClassId) (dI : Nat → Nat → Nat) (cI : ClassId) (h c0 : Nat) (f x : Nat → Int32) (p1 p2 : Int32) (sz : Nat)  : Met l yX0_isContradictedBy wsX0_isContradictedBy ({ frames := 0, cells := 0, slots := 0, locals := 0 }) (va_Pc [.ref h, .int p1, .int p2] (PW (dC, dI) vwCl [(cI, .int)] (wD cI h c0 f x) sz)) (va_Qi (S := Unit) (fun r _ => (r = 1 ∧ Ctr f p1 p2) ∨ (r = 0 ∧ ¬ Ctr f p1 p2)) (QW (dC, dI) vwCl (fun _ => [(cI, .int)]) (va_A (wD cI h c0 f x) sz) (fun _ => wD cI h c0 f x)) (va_A (wD cI h c0 f x) sz)) 0 0 (va_A (wD cI h c0 f x) sz) := by
  refine Met.ofW (cc := cX0_isContradictedBy) (maxL := 3) (ret := (some .boolean)) (by decide) rfl ?_
  intro p e s m args below meth c s₁ B hml hv
  obtain ⟨rfl, hsz, hP, hK, hD0⟩ := hv
  have hx := B.exec
  have hb := B.bytes
  have hr := B.returns
  have hts := atoms_spec (ws := wsX0_isContradictedBy) B.pre
  have hown : s.vm.findClass RX0 = some m.cls := findClass_of_methodNamed B.named
  have hlocks := B.notSynchronized
  subst hsz
  have hD := hD0.self (sz := s.heap.size)
  generalize hAe : va_A (wD cI h c0 f x) s.heap.size = A at hD ⊢
  have hA : ∀ q : Nat, s.heap.size ≤ q → A q := fun q h => by rw [← hAe]; exact Or.inr h
  have hS : va_S A s.heap s.heap [] := va_S.rf
  have hl := lv_entry ([.ref h, .int p1, .int p2]) (n := 3) (Nat.le_of_ble_eq_true rfl)
  rw [lg_entry_eq]
  generalize (lg_sl ([.ref h, .int p1, .int p2]) ++ List.replicate (3 - (lg_sl ([.ref h, .int p1, .int p2])).length) Slot.unset).toArray = ls at hl ⊢
  have hl : lv_has ls 3 [(0, .ref h), (1, .int p1), (2, .int p2)] := hl
  refine fh_start (fun H hH => ?_)
  have hP : va_P (dC, dI) vwCl (wD cI h c0 f x) H := by rw [hH]; exact hP
  have hS : va_S A s.heap H [] := by rw [hH]; exact va_S.rf
  refine lv_aload_n hx hb dX0_isContradictedBy_0 rfl (lv_at hl 0 rfl) ?_
  refine va_get (D := (dC, dI)) (ci := 0) (v := .int (f 6)) (C := RX0) (T := TX0) (N := 9) hx hb hts (by decide +kernel) hown hK hP 0 rfl rfl 6 (by decide) (hts (.fieldLink RX0 19 "FragmentHouse$Datagram" "knownEnd" "I") (by decide +kernel)) (fun _ h9 => h9) rfl dX0_isContradictedBy_1 ?_
  refine lv_iconst (v := (-1)) hx hb dX0_isContradictedBy_4 (by decide) ?_
  refine lv_icmp_eq (tgt := 30) hx hb dX0_isContradictedBy_5 (by decide) (fun c5 => ?_) (fun c5 => ?_)
  · skip
    refine lv_iload_n hx hb dX0_isContradictedBy_30 rfl (lv_at hl 2 rfl) ?_
    refine lv_if_eq (tgt := 46) hx hb dX0_isContradictedBy_31 (by decide) (fun c31 => ?_) (fun c31 => ?_)
    · skip
      refine lv_iconst (v := 0) hx hb dX0_isContradictedBy_46 (by decide) ?_
      exact W.zret hx hb hr rfl (fh_qi () (Or.inr ⟨rfl, fun q9 => q9.elim (fun q => q.1 c5) (fun q => q.1 c31)⟩) hP hK hD hS) hS.2.2 dX0_isContradictedBy_47
    · skip
      refine lv_aload_n hx hb dX0_isContradictedBy_34 rfl (lv_at hl 0 rfl) ?_
      refine va_get (D := (dC, dI)) (ci := 0) (v := .int (f 7)) (C := RX0) (T := TX0) (N := 9) hx hb hts (by decide +kernel) hown hK hP 0 rfl rfl 7 (by decide) (hts (.fieldLink RX0 41 "FragmentHouse$Datagram" "farthestReach" "I") (by decide +kernel)) (fun _ h9 => h9) rfl dX0_isContradictedBy_35 ?_
      refine lv_iload_n hx hb dX0_isContradictedBy_38 rfl (lv_at hl 1 rfl) ?_
      refine lv_icmp_le (tgt := 46) hx hb dX0_isContradictedBy_39 (by decide) (fun c39 => ?_) (fun c39 => ?_)
      · skip
        refine lv_iconst (v := 0) hx hb dX0_isContradictedBy_46 (by decide) ?_
        exact W.zret hx hb hr rfl (fh_qi () (Or.inr ⟨rfl, fun q9 => q9.elim (fun q => q.1 c5) (fun q => absurd c39 (Int32.not_le.mpr q.2))⟩) hP hK hD hS) hS.2.2 dX0_isContradictedBy_47
      · skip
        refine lv_iconst (v := 1) hx hb dX0_isContradictedBy_42 (by decide) ?_
        refine lv_goto (tgt := 47) hx hb dX0_isContradictedBy_43 (by decide) ?_
        exact W.zret hx hb hr rfl (fh_qi () (Or.inl ⟨rfl, Or.inr ⟨c31, Int32.not_le.mp c39⟩⟩) hP hK hD hS) hS.2.2 dX0_isContradictedBy_47
  · skip
    refine lv_iload_n hx hb dX0_isContradictedBy_8 rfl (lv_at hl 1 rfl) ?_
    refine lv_aload_n hx hb dX0_isContradictedBy_9 rfl (lv_at hl 0 rfl) ?_
    refine va_get (D := (dC, dI)) (ci := 0) (v := .int (f 6)) (C := RX0) (T := TX0) (N := 9) hx hb hts (by decide +kernel) hown hK hP 0 rfl rfl 6 (by decide) (hts (.fieldLink RX0 19 "FragmentHouse$Datagram" "knownEnd" "I") (by decide +kernel)) (fun _ h9 => h9) rfl dX0_isContradictedBy_10 ?_
    refine lv_icmp_gt (tgt := 28) hx hb dX0_isContradictedBy_13 (by decide) (fun c13 => ?_) (fun c13 => ?_)
    · skip
      refine lv_iconst (v := 1) hx hb dX0_isContradictedBy_28 (by decide) ?_
      exact W.zret hx hb hr rfl (fh_qi () (Or.inl ⟨rfl, Or.inl ⟨c5, Or.inl c13⟩⟩) hP hK hD hS) hS.2.2 dX0_isContradictedBy_29
    · skip
      refine lv_iload_n hx hb dX0_isContradictedBy_16 rfl (lv_at hl 2 rfl) ?_
      refine lv_if_eq (tgt := 30) hx hb dX0_isContradictedBy_17 (by decide) (fun c17 => ?_) (fun c17 => ?_)
      · skip
        refine lv_iload_n hx hb dX0_isContradictedBy_30 rfl (lv_at hl 2 rfl) ?_
        refine lv_if_eq (tgt := 46) hx hb dX0_isContradictedBy_31 (by decide) (fun c31 => ?_) (fun c31 => ?_)
        · skip
          refine lv_iconst (v := 0) hx hb dX0_isContradictedBy_46 (by decide) ?_
          exact W.zret hx hb hr rfl (fh_qi () (Or.inr ⟨rfl, fun q9 => q9.elim (fun q => q.2.elim c13 (fun z => z.1 c17)) (fun q => q.1 c31)⟩) hP hK hD hS) hS.2.2 dX0_isContradictedBy_47
        · skip
          exact absurd c17 c31
      · skip
        refine lv_iload_n hx hb dX0_isContradictedBy_20 rfl (lv_at hl 1 rfl) ?_
        refine lv_aload_n hx hb dX0_isContradictedBy_21 rfl (lv_at hl 0 rfl) ?_
        refine va_get (D := (dC, dI)) (ci := 0) (v := .int (f 6)) (C := RX0) (T := TX0) (N := 9) hx hb hts (by decide +kernel) hown hK hP 0 rfl rfl 6 (by decide) (hts (.fieldLink RX0 19 "FragmentHouse$Datagram" "knownEnd" "I") (by decide +kernel)) (fun _ h9 => h9) rfl dX0_isContradictedBy_22 ?_
        refine lv_icmp_eq (tgt := 30) hx hb dX0_isContradictedBy_25 (by decide) (fun c25 => ?_) (fun c25 => ?_)
        · skip
          refine lv_iload_n hx hb dX0_isContradictedBy_30 rfl (lv_at hl 2 rfl) ?_
          refine lv_if_eq (tgt := 46) hx hb dX0_isContradictedBy_31 (by decide) (fun c31 => ?_) (fun c31 => ?_)
          · skip
            exact absurd c31 c17
          · skip
            refine lv_aload_n hx hb dX0_isContradictedBy_34 rfl (lv_at hl 0 rfl) ?_
            refine va_get (D := (dC, dI)) (ci := 0) (v := .int (f 7)) (C := RX0) (T := TX0) (N := 9) hx hb hts (by decide +kernel) hown hK hP 0 rfl rfl 7 (by decide) (hts (.fieldLink RX0 41 "FragmentHouse$Datagram" "farthestReach" "I") (by decide +kernel)) (fun _ h9 => h9) rfl dX0_isContradictedBy_35 ?_
            refine lv_iload_n hx hb dX0_isContradictedBy_38 rfl (lv_at hl 1 rfl) ?_
            refine lv_icmp_le (tgt := 46) hx hb dX0_isContradictedBy_39 (by decide) (fun c39 => ?_) (fun c39 => ?_)
            · skip
              refine lv_iconst (v := 0) hx hb dX0_isContradictedBy_46 (by decide) ?_
              exact W.zret hx hb hr rfl (fh_qi () (Or.inr ⟨rfl, fun q9 => q9.elim (fun q => q.2.elim c13 (fun z => z.2 c25)) (fun q => absurd c39 (Int32.not_le.mpr q.2))⟩) hP hK hD hS) hS.2.2 dX0_isContradictedBy_47
            · skip
              refine lv_iconst (v := 1) hx hb dX0_isContradictedBy_42 (by decide) ?_
              refine lv_goto (tgt := 47) hx hb dX0_isContradictedBy_43 (by decide) ?_
              exact W.zret hx hb hr rfl (fh_qi () (Or.inl ⟨rfl, Or.inr ⟨c31, Int32.not_le.mp c39⟩⟩) hP hK hD hS) hS.2.2 dX0_isContradictedBy_47
        · skip
          refine lv_iconst (v := 1) hx hb dX0_isContradictedBy_28 (by decide) ?_
          exact W.zret hx hb hr rfl (fh_qi () (Or.inl ⟨rfl, Or.inl ⟨c5, Or.inr ⟨c17, c25⟩⟩⟩) hP hK hD hS) hS.2.2 dX0_isContradictedBy_29
set_option maxHeartbeats 4000000 in
set_option maxRecDepth 100000 in
/-- noteReach -/
theorem c_noteReach (l : Launch) (dC : Nat → ClassId) (dI : Nat → Nat → Nat) (cI : ClassId) (h c0 : Nat) (f x : Nat → Int32) (p1 p2 : Int32) (sz : Nat)  : Met l yX0_noteReach wsX0_noteReach ({ frames := 1, cells := 0, slots := 0, locals := 24 }) (va_Pc [.ref h, .int p1, .int p2] (PW (dC, dI) vwCl [(cI, .int)] (wD cI h c0 f x) sz)) (va_Qv (S := Nat → Int32) (fun u => u = nR f p1 p2) (QW (dC, dI) vwCl (fun _ => [(cI, .int)]) (va_A (wD cI h c0 f x) sz) (fun u => wD cI h c0 u x)) (va_A (wD cI h c0 f x) sz)) 0 0 (va_A (wD cI h c0 f x) sz) := by
  refine Met.ofW (cc := cX0_noteReach) (maxL := 3) (ret := none) (by decide) rfl ?_
  intro p e s m args below meth c s₁ B hml hv
  obtain ⟨rfl, hsz, hP, hK, hD0⟩ := hv
  have hx := B.exec
  have hb := B.bytes
  have hr := B.returns
  have hts := atoms_spec (ws := wsX0_noteReach) B.pre
  have hown : s.vm.findClass RX0 = some m.cls := findClass_of_methodNamed B.named
  have hlocks := B.notSynchronized
  subst hsz
  have hD := hD0.self (sz := s.heap.size)
  generalize hAe : va_A (wD cI h c0 f x) s.heap.size = A at hD ⊢
  have hA : ∀ q : Nat, s.heap.size ≤ q → A q := fun q h => by rw [← hAe]; exact Or.inr h
  have hS : va_S A s.heap s.heap [] := va_S.rf
  have hl := lv_entry ([.ref h, .int p1, .int p2]) (n := 3) (Nat.le_of_ble_eq_true rfl)
  rw [lg_entry_eq]
  generalize (lg_sl ([.ref h, .int p1, .int p2]) ++ List.replicate (3 - (lg_sl ([.ref h, .int p1, .int p2])).length) Slot.unset).toArray = ls at hl ⊢
  have hl : lv_has ls 3 [(0, .ref h), (1, .int p1), (2, .int p2)] := hl
  refine fh_start (fun H hH => ?_)
  have hP : va_P (dC, dI) vwCl (wD cI h c0 f x) H := by rw [hH]; exact hP
  have hS : va_S A s.heap H [] := by rw [hH]; exact va_S.rf
  refine lv_aload_n hx hb dX0_noteReach_0 rfl (lv_at hl 0 rfl) ?_
  refine lv_aload_n hx hb dX0_noteReach_1 rfl (lv_at hl 0 rfl) ?_
  refine va_get (D := (dC, dI)) (ci := 0) (v := .int (f 7)) (C := RX0) (T := TX0) (N := 9) hx hb hts (by decide +kernel) hown hK hP 0 rfl rfl 7 (by decide) (hts (.fieldLink RX0 41 "FragmentHouse$Datagram" "farthestReach" "I") (by decide +kernel)) (fun _ h9 => h9) rfl dX0_noteReach_2 ?_
  refine lv_iload_n hx hb dX0_noteReach_5 rfl (lv_at hl 1 rfl) ?_
  refine va_mmax hx hb (hml.trans hl.1.symm) hown (hts (.methodLink RX0 47 Lib.Math.max.name) (by decide +kernel)) (hts (.static Lib.Math.max.name) (by decide +kernel)) (hts (.initialized "java/lang/Math") (by decide +kernel)) (hts (.code Lib.Math.max.name Lib.Math.max.code 2 (some .int)) (by decide +kernel)) (Nat.le_of_ble_eq_true rfl) (Nat.le_of_ble_eq_true rfl) (Nat.zero_le _) (Nat.zero_le _) dX0_noteReach_6 ?_
  refine va_put (D := (dC, dI)) (ci := 0) (v := .int (if (f 7) < p1 then p1 else (f 7))) (ty := .int) (C := RX0) (T := TX0) (N := 9) hx hb hts (by decide +kernel) tyX0 tyX0_ok nmX0 hown hK hP hD hS 0 rfl rfl 7 (by decide) (hts (.fieldLink RX0 41 "FragmentHouse$Datagram" "farthestReach" "I") (by decide +kernel)) (fun _ h9 => h9) rfl (by decide +kernel) rfl rfl (Nat.le_of_ble_eq_true rfl) dX0_noteReach_9 (fun H locs hP hD hS => ?_)
  have hP : va_P (dC, dI) vwCl (wD cI h c0 (upd f 7 ((if (f 7) < p1 then p1 else (f 7)))) x) H := hP
  have hD : va_D A (wD cI h c0 (upd f 7 ((if (f 7) < p1 then p1 else (f 7)))) x) := hD
  refine lv_iload_n hx hb dX0_noteReach_12 rfl (lv_at hl 2 rfl) ?_
  refine lv_if_eq (tgt := 21) hx hb dX0_noteReach_13 (by decide) (fun c13 => ?_) (fun c13 => ?_)
  · skip
    exact W.vret hx hb hr (fh_qv (upd f 7 ((if (f 7) < p1 then p1 else (f 7)))) (by unfold nR; rw [if_pos c13]) hP hK hD hS) hS.2.2 dX0_noteReach_21
  · skip
    refine lv_aload_n hx hb dX0_noteReach_16 rfl (lv_at hl 0 rfl) ?_
    refine lv_iload_n hx hb dX0_noteReach_17 rfl (lv_at hl 1 rfl) ?_
    refine va_put (D := (dC, dI)) (ci := 0) (v := .int p1) (ty := .int) (C := RX0) (T := TX0) (N := 9) hx hb hts (by decide +kernel) tyX0 tyX0_ok nmX0 hown hK hP hD hS 0 rfl rfl 6 (by decide) (hts (.fieldLink RX0 19 "FragmentHouse$Datagram" "knownEnd" "I") (by decide +kernel)) (fun _ h9 => h9) rfl (by decide +kernel) rfl rfl (Nat.le_of_ble_eq_true rfl) dX0_noteReach_18 (fun H locs hP hD hS => ?_)
    have hP : va_P (dC, dI) vwCl (wD cI h c0 (upd (upd f 7 ((if (f 7) < p1 then p1 else (f 7)))) 6 p1) x) H := hP
    have hD : va_D A (wD cI h c0 (upd (upd f 7 ((if (f 7) < p1 then p1 else (f 7)))) 6 p1) x) := hD
    exact W.vret hx hb hr (fh_qv (upd (upd f 7 ((if (f 7) < p1 then p1 else (f 7)))) 6 p1) (by unfold nR; rw [if_neg c13]) hP hK hD hS) hS.2.2 dX0_noteReach_21
set_option maxHeartbeats 4000000 in
set_option maxRecDepth 100000 in
/-- isWhole -/
theorem c_isWhole (l : Launch) (dC : Nat → ClassId) (dI : Nat → Nat → Nat) (cI : ClassId) (h c0 : Nat) (f x : Nat → Int32) (sz : Nat)  : Met l yX0_isWhole wsX0_isWhole ({ frames := 0, cells := 0, slots := 0, locals := 0 }) (va_Pc [.ref h] (PW (dC, dI) vwCl [(cI, .int)] (wD cI h c0 f x) sz)) (va_Qi (S := Unit) (fun r _ => (r = 1 ∧ f 6 ≠ -1 ∧ f 8 = f 6) ∨ (r = 0 ∧ ¬ (f 6 ≠ -1 ∧ f 8 = f 6))) (QW (dC, dI) vwCl (fun _ => [(cI, .int)]) (va_A (wD cI h c0 f x) sz) (fun _ => wD cI h c0 f x)) (va_A (wD cI h c0 f x) sz)) 0 0 (va_A (wD cI h c0 f x) sz) := by
  refine Met.ofW (cc := cX0_isWhole) (maxL := 1) (ret := (some .boolean)) (by decide) rfl ?_
  intro p e s m args below meth c s₁ B hml hv
  obtain ⟨rfl, hsz, hP, hK, hD0⟩ := hv
  have hx := B.exec
  have hb := B.bytes
  have hr := B.returns
  have hts := atoms_spec (ws := wsX0_isWhole) B.pre
  have hown : s.vm.findClass RX0 = some m.cls := findClass_of_methodNamed B.named
  have hlocks := B.notSynchronized
  subst hsz
  have hD := hD0.self (sz := s.heap.size)
  generalize hAe : va_A (wD cI h c0 f x) s.heap.size = A at hD ⊢
  have hA : ∀ q : Nat, s.heap.size ≤ q → A q := fun q h => by rw [← hAe]; exact Or.inr h
  have hS : va_S A s.heap s.heap [] := va_S.rf
  have hl := lv_entry ([.ref h]) (n := 1) (Nat.le_of_ble_eq_true rfl)
  rw [lg_entry_eq]
  generalize (lg_sl ([.ref h]) ++ List.replicate (1 - (lg_sl ([.ref h])).length) Slot.unset).toArray = ls at hl ⊢
  have hl : lv_has ls 1 [(0, .ref h)] := hl
  refine fh_start (fun H hH => ?_)
  have hP : va_P (dC, dI) vwCl (wD cI h c0 f x) H := by rw [hH]; exact hP
  have hS : va_S A s.heap H [] := by rw [hH]; exact va_S.rf
  refine lv_aload_n hx hb dX0_isWhole_0 rfl (lv_at hl 0 rfl) ?_
  refine va_get (D := (dC, dI)) (ci := 0) (v := .int (f 6)) (C := RX0) (T := TX0) (N := 9) hx hb hts (by decide +kernel) hown hK hP 0 rfl rfl 6 (by decide) (hts (.fieldLink RX0 19 "FragmentHouse$Datagram" "knownEnd" "I") (by decide +kernel)) (fun _ h9 => h9) rfl dX0_isWhole_1 ?_
  refine lv_iconst (v := (-1)) hx hb dX0_isWhole_4 (by decide) ?_
  refine lv_icmp_eq (tgt := 23) hx hb dX0_isWhole_5 (by decide) (fun c5 => ?_) (fun c5 => ?_)
  · skip
    refine lv_iconst (v := 0) hx hb dX0_isWhole_23 (by decide) ?_
    exact W.zret hx hb hr rfl (fh_qi () (Or.inr ⟨rfl, fun q => q.1 c5⟩) hP hK hD hS) hS.2.2 dX0_isWhole_24
  · skip
    refine lv_aload_n hx hb dX0_isWhole_8 rfl (lv_at hl 0 rfl) ?_
    refine va_get (D := (dC, dI)) (ci := 0) (v := .int (f 8)) (C := RX0) (T := TX0) (N := 9) hx hb hts (by decide +kernel) hown hK hP 0 rfl rfl 8 (by decide) (hts (.fieldLink RX0 44 "FragmentHouse$Datagram" "presentCount" "I") (by decide +kernel)) (fun _ h9 => h9) rfl dX0_isWhole_9 ?_
    refine lv_aload_n hx hb dX0_isWhole_12 rfl (lv_at hl 0 rfl) ?_
    refine va_get (D := (dC, dI)) (ci := 0) (v := .int (f 6)) (C := RX0) (T := TX0) (N := 9) hx hb hts (by decide +kernel) hown hK hP 0 rfl rfl 6 (by decide) (hts (.fieldLink RX0 19 "FragmentHouse$Datagram" "knownEnd" "I") (by decide +kernel)) (fun _ h9 => h9) rfl dX0_isWhole_13 ?_
    refine lv_icmp_ne (tgt := 23) hx hb dX0_isWhole_16 (by decide) (fun c16 => ?_) (fun c16 => ?_)
    · skip
      refine lv_iconst (v := 0) hx hb dX0_isWhole_23 (by decide) ?_
      exact W.zret hx hb hr rfl (fh_qi () (Or.inr ⟨rfl, fun q => c16 q.2⟩) hP hK hD hS) hS.2.2 dX0_isWhole_24
    · skip
      refine lv_iconst (v := 1) hx hb dX0_isWhole_19 (by decide) ?_
      refine lv_goto (tgt := 24) hx hb dX0_isWhole_20 (by decide) ?_
      exact W.zret hx hb hr rfl (fh_qi () (Or.inl ⟨rfl, c5, c16⟩) hP hK hD hS) hS.2.2 dX0_isWhole_24
set_option maxHeartbeats 4000000 in
set_option maxRecDepth 100000 in
/-- begin: all cells empty, the fields as given -/
theorem c_begin (l : Launch) (dC : Nat → ClassId) (dI : Nat → Nat → Nat) (cI : ClassId) (h c0 : Nat) (f x : Nat → Int32) (p1 p2 p3 p4 : Int32) (sz : Nat)  : Met l yX0_begin wsX0_begin ({ frames := 1, cells := 0, slots := 0, locals := 24 }) (va_Pc [.ref h, .int p1, .int p2, .int p3, .int p4] (PW (dC, dI) vwCl [(cI, .int)] (wD cI h c0 f x) sz)) (va_Qv (S := (Nat → Int32) × (Nat → Int32)) (fun u => u.1 = bg f p1 p2 p3 p4 ∧ ∀ j, j < 4096 → u.2 j = -1) (QW (dC, dI) vwCl (fun _ => [(cI, .int)]) (va_A (wD cI h c0 f x) sz) (fun u => wD cI h c0 u.1 u.2)) (va_A (wD cI h c0 f x) sz)) 0 0 (va_A (wD cI h c0 f x) sz) := by
  refine Met.ofW (cc := cX0_begin) (maxL := 5) (ret := none) (by decide) rfl ?_
  intro p e s m args below meth c s₁ B hml hv
  obtain ⟨rfl, hsz, hP, hK, hD0⟩ := hv
  have hx := B.exec
  have hb := B.bytes
  have hr := B.returns
  have hts := atoms_spec (ws := wsX0_begin) B.pre
  have hown : s.vm.findClass RX0 = some m.cls := findClass_of_methodNamed B.named
  have hlocks := B.notSynchronized
  subst hsz
  have hD := hD0.self (sz := s.heap.size)
  generalize hAe : va_A (wD cI h c0 f x) s.heap.size = A at hD ⊢
  have hA : ∀ q : Nat, s.heap.size ≤ q → A q := fun q h => by rw [← hAe]; exact Or.inr h
  have hS : va_S A s.heap s.heap [] := va_S.rf
  have hl := lv_entry ([.ref h, .int p1, .int p2, .int p3, .int p4]) (n := 5) (Nat.le_of_ble_eq_true rfl)
  rw [lg_entry_eq]
  generalize (lg_sl ([.ref h, .int p1, .int p2, .int p3, .int p4]) ++ List.replicate (5 - (lg_sl ([.ref h, .int p1, .int p2, .int p3, .int p4])).length) Slot.unset).toArray = ls at hl ⊢
  have hl : lv_has ls 5 [(0, .ref h), (1, .int p1), (2, .int p2), (3, .int p3), (4, .int p4)] := hl
  refine fh_start (fun H hH => ?_)
  have hP : va_P (dC, dI) vwCl (wD cI h c0 f x) H := by rw [hH]; exact hP
  have hS : va_S A s.heap H [] := by rw [hH]; exact va_S.rf
  refine lv_aload_n hx hb dX0_begin_0 rfl (lv_at hl 0 rfl) ?_
  refine va_get (D := (dC, dI)) (ci := 0) (v := .ref c0) (C := RX0) (T := TX0) (N := 9) hx hb hts (by decide +kernel) hown hK hP 0 rfl rfl 0 (by decide) (hts (.fieldLink RX0 9 "FragmentHouse$Datagram" "cells" "[I") (by decide +kernel)) (fun _ h9 => h9) rfl dX0_begin_1 ?_
  refine lv_iconst (v := (-1)) hx hb dX0_begin_4 (by decide) ?_
  have hPc := hP.sub (ws' := [(c0, eI cI 4096 x)]) [1] rfl
  have hDc := hD.sub (ws' := [(c0, eI cI 4096 x)]) [1] (by decide) rfl
  refine fh_cv (wr := [(h, eD c0 f)]) (w2 := fun u => wD cI h c0 f u) (va_runS (As := [.ref c0, .int ((-1))]) (rest := []) ⟨hx, hb, hml, hown, hts⟩ (c_fill l dC dI cI c0 4096 x (-1) H.size (by decide)) (va_cwS 2 hts gX0_begin_J7_fill_53178 rfl rfl rfl (by decide +kernel) ⟨Nat.le_of_ble_eq_true rfl, Nat.le_of_ble_eq_true rfl⟩) (pS_PW hK hPc hDc) rfl rfl hl.1 rfl (lv_room (Nat.le_of_ble_eq_true rfl)) dX0_begin_5 ⟨Nat.zero_le _, Nat.zero_le _⟩) hP hD hS hA [1] [0] [0, 1] rfl rfl (by decide) (by decide) (by decide) (fun _ => rfl) (fun u H locs hw hK hP hD hS => ?_)
  have hP : va_P (dC, dI) vwCl (wD cI h c0 f u) H := hP
  have hD : va_D A (wD cI h c0 f u) := hD
  refine lv_aload_n hx hb dX0_begin_8 rfl (lv_at hl 0 rfl) ?_
  refine lv_iconst (v := 1) hx hb dX0_begin_9 (by decide) ?_
  refine va_put (D := (dC, dI)) (ci := 0) (v := .int 1) (ty := .boolean) (C := RX0) (T := TX0) (N := 9) hx hb hts (by decide +kernel) tyX0 tyX0_ok nmX0 hown hK hP hD hS 0 rfl rfl 1 (by decide) (hts (.fieldLink RX0 15 "FragmentHouse$Datagram" "inMaking" "Z") (by decide +kernel)) (fun _ h9 => h9) rfl (by decide +kernel) rfl rfl (Nat.le_of_ble_eq_true rfl) dX0_begin_10 (fun H locs hP hD hS => ?_)
  have hP : va_P (dC, dI) vwCl (wD cI h c0 (upd f 1 1) u) H := hP
  have hD : va_D A (wD cI h c0 (upd f 1 1) u) := hD
  refine lv_aload_n hx hb dX0_begin_13 rfl (lv_at hl 0 rfl) ?_
  refine lv_iload_n hx hb dX0_begin_14 rfl (lv_at hl 1 rfl) ?_
  refine va_put (D := (dC, dI)) (ci := 0) (v := .int p1) (ty := .int) (C := RX0) (T := TX0) (N := 9) hx hb hts (by decide +kernel) tyX0 tyX0_ok nmX0 hown hK hP hD hS 0 rfl rfl 2 (by decide) (hts (.fieldLink RX0 29 "FragmentHouse$Datagram" "sender" "I") (by decide +kernel)) (fun _ h9 => h9) rfl (by decide +kernel) rfl rfl (Nat.le_of_ble_eq_true rfl) dX0_begin_15 (fun H locs hP hD hS => ?_)
  have hP : va_P (dC, dI) vwCl (wD cI h c0 (upd (upd f 1 1) 2 p1) u) H := hP
  have hD : va_D A (wD cI h c0 (upd (upd f 1 1) 2 p1) u) := hD
  refine lv_aload_n hx hb dX0_begin_18 rfl (lv_at hl 0 rfl) ?_
  refine lv_iload_n hx hb dX0_begin_19 rfl (lv_at hl 2 rfl) ?_
  refine va_put (D := (dC, dI)) (ci := 0) (v := .int p2) (ty := .int) (C := RX0) (T := TX0) (N := 9) hx hb hts (by decide +kernel) tyX0 tyX0_ok nmX0 hown hK hP hD hS 0 rfl rfl 3 (by decide) (hts (.fieldLink RX0 32 "FragmentHouse$Datagram" "identification" "I") (by decide +kernel)) (fun _ h9 => h9) rfl (by decide +kernel) rfl rfl (Nat.le_of_ble_eq_true rfl) dX0_begin_20 (fun H locs hP hD hS => ?_)
  have hP : va_P (dC, dI) vwCl (wD cI h c0 (upd (upd (upd f 1 1) 2 p1) 3 p2) u) H := hP
  have hD : va_D A (wD cI h c0 (upd (upd (upd f 1 1) 2 p1) 3 p2) u) := hD
  refine lv_aload_n hx hb dX0_begin_23 rfl (lv_at hl 0 rfl) ?_
  refine lv_iload_n hx hb dX0_begin_24 rfl (lv_at hl 3 rfl) ?_
  refine va_put (D := (dC, dI)) (ci := 0) (v := .int p3) (ty := .int) (C := RX0) (T := TX0) (N := 9) hx hb hts (by decide +kernel) tyX0 tyX0_ok nmX0 hown hK hP hD hS 0 rfl rfl 4 (by decide) (hts (.fieldLink RX0 35 "FragmentHouse$Datagram" "protocol" "I") (by decide +kernel)) (fun _ h9 => h9) rfl (by decide +kernel) rfl rfl (Nat.le_of_ble_eq_true rfl) dX0_begin_25 (fun H locs hP hD hS => ?_)
  have hP : va_P (dC, dI) vwCl (wD cI h c0 (upd (upd (upd (upd f 1 1) 2 p1) 3 p2) 4 p3) u) H := hP
  have hD : va_D A (wD cI h c0 (upd (upd (upd (upd f 1 1) 2 p1) 3 p2) 4 p3) u) := hD
  refine lv_aload_n hx hb dX0_begin_28 rfl (lv_at hl 0 rfl) ?_
  refine lv_iload hx hb dX0_begin_29 (lv_at hl 4 rfl) ?_
  refine va_put (D := (dC, dI)) (ci := 0) (v := .int p4) (ty := .int) (C := RX0) (T := TX0) (N := 9) hx hb hts (by decide +kernel) tyX0 tyX0_ok nmX0 hown hK hP hD hS 0 rfl rfl 5 (by decide) (hts (.fieldLink RX0 38 "FragmentHouse$Datagram" "firstTime" "I") (by decide +kernel)) (fun _ h9 => h9) rfl (by decide +kernel) rfl rfl (Nat.le_of_ble_eq_true rfl) dX0_begin_31 (fun H locs hP hD hS => ?_)
  have hP : va_P (dC, dI) vwCl (wD cI h c0 (upd (upd (upd (upd (upd f 1 1) 2 p1) 3 p2) 4 p3) 5 p4) u) H := hP
  have hD : va_D A (wD cI h c0 (upd (upd (upd (upd (upd f 1 1) 2 p1) 3 p2) 4 p3) 5 p4) u) := hD
  refine lv_aload_n hx hb dX0_begin_34 rfl (lv_at hl 0 rfl) ?_
  refine lv_iconst (v := (-1)) hx hb dX0_begin_35 (by decide) ?_
  refine va_put (D := (dC, dI)) (ci := 0) (v := .int ((-1))) (ty := .int) (C := RX0) (T := TX0) (N := 9) hx hb hts (by decide +kernel) tyX0 tyX0_ok nmX0 hown hK hP hD hS 0 rfl rfl 6 (by decide) (hts (.fieldLink RX0 19 "FragmentHouse$Datagram" "knownEnd" "I") (by decide +kernel)) (fun _ h9 => h9) rfl (by decide +kernel) rfl rfl (Nat.le_of_ble_eq_true rfl) dX0_begin_36 (fun H locs hP hD hS => ?_)
  have hP : va_P (dC, dI) vwCl (wD cI h c0 (upd (upd (upd (upd (upd (upd f 1 1) 2 p1) 3 p2) 4 p3) 5 p4) 6 (((-1)))) u) H := hP
  have hD : va_D A (wD cI h c0 (upd (upd (upd (upd (upd (upd f 1 1) 2 p1) 3 p2) 4 p3) 5 p4) 6 (((-1)))) u) := hD
  refine lv_aload_n hx hb dX0_begin_39 rfl (lv_at hl 0 rfl) ?_
  refine lv_iconst (v := 0) hx hb dX0_begin_40 (by decide) ?_
  refine va_put (D := (dC, dI)) (ci := 0) (v := .int 0) (ty := .int) (C := RX0) (T := TX0) (N := 9) hx hb hts (by decide +kernel) tyX0 tyX0_ok nmX0 hown hK hP hD hS 0 rfl rfl 7 (by decide) (hts (.fieldLink RX0 41 "FragmentHouse$Datagram" "farthestReach" "I") (by decide +kernel)) (fun _ h9 => h9) rfl (by decide +kernel) rfl rfl (Nat.le_of_ble_eq_true rfl) dX0_begin_41 (fun H locs hP hD hS => ?_)
  have hP : va_P (dC, dI) vwCl (wD cI h c0 (upd (upd (upd (upd (upd (upd (upd f 1 1) 2 p1) 3 p2) 4 p3) 5 p4) 6 (((-1)))) 7 0) u) H := hP
  have hD : va_D A (wD cI h c0 (upd (upd (upd (upd (upd (upd (upd f 1 1) 2 p1) 3 p2) 4 p3) 5 p4) 6 (((-1)))) 7 0) u) := hD
  refine lv_aload_n hx hb dX0_begin_44 rfl (lv_at hl 0 rfl) ?_
  refine lv_iconst (v := 0) hx hb dX0_begin_45 (by decide) ?_
  refine va_put (D := (dC, dI)) (ci := 0) (v := .int 0) (ty := .int) (C := RX0) (T := TX0) (N := 9) hx hb hts (by decide +kernel) tyX0 tyX0_ok nmX0 hown hK hP hD hS 0 rfl rfl 8 (by decide) (hts (.fieldLink RX0 44 "FragmentHouse$Datagram" "presentCount" "I") (by decide +kernel)) (fun _ h9 => h9) rfl (by decide +kernel) rfl rfl (Nat.le_of_ble_eq_true rfl) dX0_begin_46 (fun H locs hP hD hS => ?_)
  have hP : va_P (dC, dI) vwCl (wD cI h c0 (upd (upd (upd (upd (upd (upd (upd (upd f 1 1) 2 p1) 3 p2) 4 p3) 5 p4) 6 (((-1)))) 7 0) 8 0) u) H := hP
  have hD : va_D A (wD cI h c0 (upd (upd (upd (upd (upd (upd (upd (upd f 1 1) 2 p1) 3 p2) 4 p3) 5 p4) 6 (((-1)))) 7 0) 8 0) u) := hD
  exact W.vret hx hb hr (fh_qv (upd (upd (upd (upd (upd (upd (upd (upd f 1 1) 2 p1) 3 p2) 4 p3) 5 p4) 6 (((-1)))) 7 0) 8 0, u) ⟨rfl, hw⟩ hP hK hD hS) hS.2.2 dX0_begin_49
set_option maxHeartbeats 4000000 in
set_option maxRecDepth 100000 in
/-- putIn: the bytes go where none is, and are counted -/
theorem c_putIn (l : Launch) (dC : Nat → ClassId) (dI : Nat → Nat → Nat) (cI : ClassId) (h c0 t : Nat) (f x T : Nat → Int32) (k st : Nat) (sz : Nat) (hk : k ≤ 1480) (hst : st + k ≤ 4096) : Met l yX0_putIn wsX0_putIn ({ frames := 0, cells := 0, slots := 0, locals := 0 }) (va_Pc [.ref h, .ref t, .int (nI k), .int (nI st)] (PW (dC, dI) vwCl [(cI, .int)] (wDs cI h c0 t f x T) sz)) (va_Qv (S := Unit) (fun _ => True) (QW (dC, dI) vwCl (fun _ => [(cI, .int)]) (va_A (wDs cI h c0 t f x T) sz) (fun _ => wDs cI h c0 t (upd f 8 (f 8 + nI (cn x st k))) (pt x st k T) T)) (va_A (wDs cI h c0 t f x T) sz)) 0 0 (va_A (wDs cI h c0 t f x T) sz) := by
  refine Met.ofW (cc := cX0_putIn) (maxL := 5) (ret := none) (by decide) rfl ?_
  intro p e s m args below meth c s₁ B hml hv
  obtain ⟨rfl, hsz, hP, hK, hD0⟩ := hv
  have hx := B.exec
  have hb := B.bytes
  have hr := B.returns
  have hts := atoms_spec (ws := wsX0_putIn) B.pre
  have hown : s.vm.findClass RX0 = some m.cls := findClass_of_methodNamed B.named
  have hlocks := B.notSynchronized
  subst hsz
  have hD := hD0.self (sz := s.heap.size)
  generalize hAe : va_A (wDs cI h c0 t f x T) s.heap.size = A at hD ⊢
  have hA : ∀ q : Nat, s.heap.size ≤ q → A q := fun q h => by rw [← hAe]; exact Or.inr h
  have hS : va_S A s.heap s.heap [] := va_S.rf
  have hl := lv_entry ([.ref h, .ref t, .int (nI k), .int (nI st)]) (n := 5) (Nat.le_of_ble_eq_true rfl)
  rw [lg_entry_eq]
  generalize (lg_sl ([.ref h, .ref t, .int (nI k), .int (nI st)]) ++ List.replicate (5 - (lg_sl ([.ref h, .ref t, .int (nI k), .int (nI st)])).length) Slot.unset).toArray = ls at hl ⊢
  have hl : lv_has ls 5 [(0, .ref h), (1, .ref t), (2, .int (nI k)), (3, .int (nI st))] := hl
  refine fh_start (fun H hH => ?_)
  have hP : va_P (dC, dI) vwCl (wDs cI h c0 t f x T) H := by rw [hH]; exact hP
  have hS : va_S A s.heap H [] := by rw [hH]; exact va_S.rf
  refine lv_iconst (v := nI 0) hx hb dX0_putIn_0 (by decide) ?_
  refine lv_istore (lv' := [(4, .int (nI 0)), (0, .ref h), (1, .ref t), (2, .int (nI k)), (3, .int (nI st))]) hx hb dX0_putIn_1 hl (by decide) rfl (fun ls hl => ?_)
  have hP : va_P (dC, dI) vwCl (wDs cI h c0 t (upd f 8 (f 8 + nI (cn x st 0))) (pt x st 0 T) T) H := by rw [pt_0, show cn x st 0 = 0 from rfl, up_0]; exact hP
  have hD : va_D A (wDs cI h c0 t (upd f 8 (f 8 + nI (cn x st 0))) (pt x st 0 T) T) := by rw [pt_0, show cn x st 0 = 0 from rfl, up_0]; exact hD
  refine fh_loop (σ := Nat) (fun q9 H locs ls => (q9 ≤ k) ∧ va_P (dC, dI) vwCl (wDs cI h c0 t (upd f 8 (f 8 + nI (cn x st q9))) (pt x st q9 T) T) H ∧ va_D A (wDs cI h c0 t (upd f 8 (f 8 + nI (cn x st q9))) (pt x st q9 T) T) ∧ va_S A s.heap H locs ∧ lv_has ls 5 [(0, .ref h), (1, .ref t), (2, .int (nI k)), (3, .int (nI st)), (4, .int (nI q9))]) (fun q9 => k - q9) ?_ (0) ⟨Nat.zero_le _, hP, hD, hS, lv_sub hl [1, 2, 3, 4, 0] rfl⟩
  intro q9 H locs ls hI ih
  obtain ⟨i, rfl⟩ : ∃ z, z = q9 := ⟨_, rfl⟩
  obtain ⟨hi, hP, hD, hS, hl⟩ : (i ≤ k) ∧ va_P (dC, dI) vwCl (wDs cI h c0 t (upd f 8 (f 8 + nI (cn x st i))) (pt x st i T) T) H ∧ va_D A (wDs cI h c0 t (upd f 8 (f 8 + nI (cn x st i))) (pt x st i T) T) ∧ va_S A s.heap H locs ∧ lv_has ls 5 [(0, .ref h), (1, .ref t), (2, .int (nI k)), (3, .int (nI st)), (4, .int (nI i))] := hI
  refine lv_iload hx hb dX0_putIn_3 (lv_at hl 4 rfl) ?_
  refine lv_iload_n hx hb dX0_putIn_5 rfl (lv_at hl 2 rfl) ?_
  refine lv_icmp_ge (tgt := 51) hx hb dX0_putIn_6 (by decide) (fun c6 => ?_) (fun c6 => ?_)
  · skip
    obtain rfl : i = k := Nat.le_antisymm hi ((nI_leI (by omega) (by omega)).mp c6)
    exact W.vret hx hb hr (fh_qv () trivial hP hK hD hS) hS.2.2 dX0_putIn_51
  · skip
    have hlt : i < k := Nat.lt_of_not_le (fun h => c6 (nI_le h (by omega)))
    refine lv_aload_n hx hb dX0_putIn_9 rfl (lv_at hl 0 rfl) ?_
    refine va_get (D := (dC, dI)) (ci := 0) (v := .ref c0) (C := RX0) (T := TX0) (N := 9) hx hb hts (by decide +kernel) hown hK hP 0 rfl rfl 0 (by decide) (hts (.fieldLink RX0 9 "FragmentHouse$Datagram" "cells" "[I") (by decide +kernel)) (fun _ h9 => h9) rfl dX0_putIn_10 ?_
    refine lv_iload_n hx hb dX0_putIn_13 rfl (lv_at hl 3 rfl) ?_
    refine lv_iload hx hb dX0_putIn_14 (lv_at hl 4 rfl) ?_
    refine lv_iadd hx hb dX0_putIn_16 ?_
    refine fh_top (y := nI (st + i)) (nI_add st i) ?_
    refine fh_iald (k := (st + i)) hx hb hK hP 1 0 rfl rfl (by omega) (by first | decide | omega) dX0_putIn_17 ?_
    refine lv_iconst (v := (-1)) hx hb dX0_putIn_18 (by decide) ?_
    refine lv_icmp_ne (tgt := 45) hx hb dX0_putIn_19 (by decide) (fun c19 => ?_) (fun c19 => ?_)
    · skip
      refine lv_iinc (v := (nI (i + 1))) (lv' := [(4, .int (nI (i + 1))), (0, .ref h), (1, .ref t), (2, .int (nI k)), (3, .int (nI st))]) hx hb dX0_putIn_45 hl (k := 4) rfl (nI_1 i) (by decide) rfl (fun ls hl => ?_)
      refine lv_goto (tgt := 3) hx hb dX0_putIn_48 (by decide) ?_
      have hP : va_P (dC, dI) vwCl (wDs cI h c0 t (upd f 8 (f 8 + nI (cn x st (i + 1)))) (pt x st (i + 1) T) T) H := by rw [← pt_s2 c19, cn_s2 c19]; exact hP
      have hD : va_D A (wDs cI h c0 t (upd f 8 (f 8 + nI (cn x st (i + 1)))) (pt x st (i + 1) T) T) := by rw [← pt_s2 c19, cn_s2 c19]; exact hD
      exact ih (i + 1) _ _ _ ⟨hlt, hP, hD, hS, lv_sub hl [1, 2, 3, 4, 0] rfl⟩ (by show k - (i + 1) < k - i; omega)
    · skip
      refine lv_aload_n hx hb dX0_putIn_22 rfl (lv_at hl 0 rfl) ?_
      refine va_get (D := (dC, dI)) (ci := 0) (v := .ref c0) (C := RX0) (T := TX0) (N := 9) hx hb hts (by decide +kernel) hown hK hP 0 rfl rfl 0 (by decide) (hts (.fieldLink RX0 9 "FragmentHouse$Datagram" "cells" "[I") (by decide +kernel)) (fun _ h9 => h9) rfl dX0_putIn_23 ?_
      refine lv_iload_n hx hb dX0_putIn_26 rfl (lv_at hl 3 rfl) ?_
      refine lv_iload hx hb dX0_putIn_27 (lv_at hl 4 rfl) ?_
      refine lv_iadd hx hb dX0_putIn_29 ?_
      refine fh_top (y := nI (st + i)) (nI_add st i) ?_
      refine lv_aload_n hx hb dX0_putIn_30 rfl (lv_at hl 1 rfl) ?_
      refine lv_iload hx hb dX0_putIn_31 (lv_at hl 4 rfl) ?_
      refine fh_iald (k := i) hx hb hK hP 2 0 rfl rfl (by omega) (by first | decide | omega) dX0_putIn_33 ?_
      refine fh_iast (k := (st + i)) hx hb hK hP hD hS 1 0 rfl rfl (by omega) (by first | decide | omega) dX0_putIn_34 (fun H locs hP hD hS => ?_)
      have hP : va_P (dC, dI) vwCl (wDs cI h c0 t (upd f 8 (f 8 + nI (cn x st i))) (upd ((pt x st i T)) ((st + i)) ((T i))) T) H := hP
      have hD : va_D A (wDs cI h c0 t (upd f 8 (f 8 + nI (cn x st i))) (upd ((pt x st i T)) ((st + i)) ((T i))) T) := hD
      refine lv_aload_n hx hb dX0_putIn_35 rfl (lv_at hl 0 rfl) ?_
      refine lv_dup hx hb dX0_putIn_36 rfl ?_
      refine va_get (D := (dC, dI)) (ci := 0) (v := .int ((upd f 8 (f 8 + nI (cn x st i))) 8)) (C := RX0) (T := TX0) (N := 9) hx hb hts (by decide +kernel) hown hK hP 0 rfl rfl 8 (by decide) (hts (.fieldLink RX0 44 "FragmentHouse$Datagram" "presentCount" "I") (by decide +kernel)) (fun _ h9 => h9) rfl dX0_putIn_37 ?_
      refine lv_iconst (v := 1) hx hb dX0_putIn_40 (by decide) ?_
      refine lv_iadd hx hb dX0_putIn_41 ?_
      refine va_put (D := (dC, dI)) (ci := 0) (v := .int (((upd f 8 (f 8 + nI (cn x st i))) 8) + 1)) (ty := .int) (C := RX0) (T := TX0) (N := 9) hx hb hts (by decide +kernel) tyX0 tyX0_ok nmX0 hown hK hP hD hS 0 rfl rfl 8 (by decide) (hts (.fieldLink RX0 44 "FragmentHouse$Datagram" "presentCount" "I") (by decide +kernel)) (fun _ h9 => h9) rfl (by decide +kernel) rfl rfl (Nat.le_of_ble_eq_true rfl) dX0_putIn_42 (fun H locs hP hD hS => ?_)
      have hP : va_P (dC, dI) vwCl (wDs cI h c0 t (upd (upd f 8 (f 8 + nI (cn x st i))) 8 ((((upd f 8 (f 8 + nI (cn x st i))) 8) + 1))) (upd ((pt x st i T)) ((st + i)) ((T i))) T) H := hP
      have hD : va_D A (wDs cI h c0 t (upd (upd f 8 (f 8 + nI (cn x st i))) 8 ((((upd f 8 (f 8 + nI (cn x st i))) 8) + 1))) (upd ((pt x st i T)) ((st + i)) ((T i))) T) := hD
      refine lv_iinc (v := (nI (i + 1))) (lv' := [(4, .int (nI (i + 1))), (0, .ref h), (1, .ref t), (2, .int (nI k)), (3, .int (nI st))]) hx hb dX0_putIn_45 hl (k := 4) rfl (nI_1 i) (by decide) rfl (fun ls hl => ?_)
      refine lv_goto (tgt := 3) hx hb dX0_putIn_48 (by decide) ?_
      have hP : va_P (dC, dI) vwCl (wDs cI h c0 t (upd f 8 (f 8 + nI (cn x st (i + 1)))) (pt x st (i + 1) T) T) H := by rw [← pt_s1 c19, cn_s1 c19, ← up_s]; exact hP
      have hD : va_D A (wDs cI h c0 t (upd f 8 (f 8 + nI (cn x st (i + 1)))) (pt x st (i + 1) T) T) := by rw [← pt_s1 c19, cn_s1 c19, ← up_s]; exact hD
      exact ih (i + 1) _ _ _ ⟨hlt, hP, hD, hS, lv_sub hl [1, 2, 3, 4, 0] rfl⟩ (by show k - (i + 1) < k - i; omega)
